/** Counts what is not as due; every test of the project ends with it. */
final class Check {
    private static int wrong = 0;
    private static int looked = 0;

    private Check() {
    }

    static void due(String what, long got, long want) {
        looked++;
        if (got == want) return;
        wrong++;
        if (wrong <= 40) System.out.println(what + " answered " + got + ", due is " + want);
    }

    static void holds(String what, boolean holds) {
        due(what, holds ? 1 : 0, 1);
    }

    /** Each answer of a list of calls, in order. */
    static void all(String what, long[] got, long... want) {
        due(what + ": how many", got.length, want.length);
        for (int i = 0; i < Math.min(got.length, want.length); i++) due(what + " [" + i + "]", got[i], want[i]);
    }

    /** Ends the test at once, if something is not as due: what follows might hardly end then. */
    static void soFar() {
        if (wrong != 0) end();
    }

    static void end() {
        System.out.println(wrong == 0 ? looked + " answers are as due" : wrong + " of " + looked + " are not as due");
        if (wrong != 0) System.exit(1);
    }
}
