/** Compares answers with the ones that are due and prints each that is not. */
final class Due {
    private static String at = "";
    private static int wrong = 0;
    private static int asked = 0;

    private Due() {
    }

    /** What is asked from here on belongs to this case. */
    static void begin(String name) {
        at = name + ": ";
    }

    static int wrong() {
        return wrong;
    }

    static int asked() {
        return asked;
    }

    static void is(String call, long got, long want) {
        asked++;
        if (got != want) {
            fail(call + " answered " + got + ", due is " + want);
        }
    }

    static void isTrue(String what, boolean holds) {
        is(what, holds ? 1 : 0, 1);
    }

    static void fail(String what) {
        wrong++;
        if (wrong <= 40) {
            System.out.println(at + what);
        }
    }

    static void end() {
        System.out.println(asked + " answers, " + wrong + " not as due");
        if (wrong != 0) {
            System.exit(1);
        }
    }
}
