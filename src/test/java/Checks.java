/** Counts the answers that are not the ones due, and ends a test with exit code 1 if there was one. */
final class Checks {
    private int asked = 0;
    private int wrong = 0;

    void due(String call, long got, long want) {
        asked++;
        if (got != want) {
            wrong++;
            System.out.println(call + " answered " + got + ", due is " + want);
        }
    }

    void dueFloat(String call, int gotBits, float want) {
        asked++;
        if (gotBits != Float.floatToRawIntBits(want)) {
            wrong++;
            System.out.println(call + " answered " + Float.intBitsToFloat(gotBits) + ", due is " + want);
        }
    }

    int wrong() {
        return wrong;
    }

    void finish() {
        System.out.println(wrong == 0 ? "all " + asked + " answers are as due"
                : wrong + " of " + asked + " answers are not as due");
        if (wrong != 0) {
            System.exit(1);
        }
    }

    static int bits(double x) {
        return Float.floatToRawIntBits((float) x);
    }
}
