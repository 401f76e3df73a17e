import java.io.IOException;
import java.lang.reflect.Constructor;
import java.lang.reflect.Field;
import java.lang.reflect.Method;
import java.lang.reflect.Modifier;
import java.nio.file.Files;
import java.nio.file.Path;
import java.util.Arrays;
import java.util.TreeSet;
import java.util.regex.Pattern;

/** The public face, and what of LANGUAGE.md can be seen by plain looking. */
public final class FaceTest {
    private static final Checks checks = new Checks();

    private static final String[] FACE = {
        "int clip(int,int)", "int number(int,int,int,long)", "int sample(int,int)", "int plug(int,int,int)",
        "int plugged(int,int)", "int track(int,int,int,boolean)", "int pure(int,boolean)", "int chain(int,int,int)",
        "int level(int,int)", "int on(int,boolean)", "int line(int,int)", "int hire(int)", "int render(int)",
        "int turn(int)", "int rounds(int,int)", "int stop()", "int out(int)", "int told(int,int)", "int worker(int)",
        "int fault(int,int)", "int found(int)", "int about(int)", "long digest()"};

    private static final String[] RULED_OUT = {
        "\\bthrow\\b", "\\bthrows\\b", "\\btry\\b", "\\bcatch\\b", "\\bsynchronized\\b", "\\bassert\\b", "->", "::",
        "\\bFloat\\.", "\\bDouble\\.", "\\w+Exact\\b", "\\bSystem\\.(?!arraycopy\\b)", "\\bThread\\b", "\\bObject\\b",
        "Math\\.(?!min\\b|max\\b|abs\\b|floorMod\\b|floorDiv\\b)", "%", "\\bequals\\b", "\\bhashCode\\b", "\\btoString\\b",
        "\\bstatic final (float|double)\\b", "\\bimport (?!java\\.util\\.(Arrays|ArrayList|List);)"};

    public static void main(String[] args) throws IOException {
        face();
        constants();
        source();
        checks.finish();
    }

    private static void hold(String what, boolean holds) {
        checks.due(what, holds ? 1 : 0, 1);
    }

    private static String told(Method method) {
        StringBuilder text = new StringBuilder(method.getReturnType() + " " + method.getName() + "(");
        for (int i = 0; i < method.getParameterCount(); i++) {
            text.append(i == 0 ? "" : ",").append(method.getParameterTypes()[i]);
        }
        return text.append(")").toString();
    }

    private static void face() {
        hold("public and final", ScoreThreads.class.getModifiers() == (Modifier.PUBLIC | Modifier.FINAL));
        TreeSet<String> open = new TreeSet<>();
        TreeSet<String> openNames = new TreeSet<>();
        for (Method method : ScoreThreads.class.getDeclaredMethods()) {
            if (!Modifier.isPrivate(method.getModifiers())) {
                hold(method + " is public alone", method.getModifiers() == Modifier.PUBLIC);
                open.add(told(method));
                openNames.add(method.getName());
            }
        }
        hold("methods are " + open, open.equals(new TreeSet<>(Arrays.asList(FACE))));
        for (Method method : ScoreThreads.class.getDeclaredMethods()) {
            boolean hidden = Modifier.isPrivate(method.getModifiers());
            hold(method + " has a name of its own", !hidden || !openNames.contains(method.getName()));
            hold(method + " has few parameters", method.getParameterCount() <= 7);
        }
        Constructor<?>[] made = ScoreThreads.class.getDeclaredConstructors();
        hold("one constructor", made.length == 1 && made[0].getModifiers() == Modifier.PUBLIC
                && made[0].getParameterCount() == 0);
        for (Class<?> inside : ScoreThreads.class.getDeclaredClasses()) {
            hold(inside + " is static", Modifier.isStatic(inside.getModifiers()));
            hold(inside + " is not open", !Modifier.isPublic(inside.getModifiers()));
            hold(inside + " has few fields", inside.getDeclaredFields().length <= 20);
        }
    }

    private static void constants() {
        int open = 0;
        for (Field field : ScoreThreads.class.getDeclaredFields()) {
            open += Modifier.isPrivate(field.getModifiers()) ? 0 : 1;
            hold(field + " is final if static",
                    !Modifier.isStatic(field.getModifiers()) || Modifier.isFinal(field.getModifiers()));
        }
        checks.due("constants", open, 5);
        checks.due("NONE", ScoreThreads.NONE, -1);
        checks.due("UNKNOWN", ScoreThreads.UNKNOWN, -101);
        checks.due("OUTSIDE", ScoreThreads.OUTSIDE, -102);
        checks.due("STATE", ScoreThreads.STATE, -103);
        checks.due("FULL", ScoreThreads.FULL, -104);
    }

    private static void source() throws IOException {
        String path = System.getProperty("score.source", "src/main/java/ScoreThreads.java");
        String[] lines = Files.readString(Path.of(path)).split("\n");
        for (int i = 0; i < lines.length; i++) {
            String code = lines[i].replaceAll("//.*|^\\s*/?\\*.*", "");
            for (String word : RULED_OUT) {
                hold("line " + (i + 1) + " is without " + word, !Pattern.compile(word).matcher(code).find());
            }
        }
    }
}
