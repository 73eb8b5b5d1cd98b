/** Counts the answers that are not the ones that are due, and tells them. */
final class Check {
    private static int looked = 0;
    private static int wrong = 0;

    static void due(String call, long want, long got) {
        looked++;
        if (got == want) return;
        wrong++;
        if (wrong <= 50) System.out.println(call + " answered " + got + ", due is " + want);
    }

    static void holds(String what, boolean so) {
        looked++;
        if (so) return;
        wrong++;
        if (wrong <= 50) System.out.println("does not hold: " + what);
    }

    static void end(String test) {
        System.out.println(test + ": " + looked + " looked at, " + wrong + " wrong");
        if (wrong != 0 || looked == 0) System.exit(1);
    }
}
