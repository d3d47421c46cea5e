import java.util.Arrays;

/** Counts answers, prints those that are not as due, and ends a test with the exit code that says so. */
final class Check {
    private static int done = 0;
    private static int wrong = 0;
    private static String part = "";

    private Check() {
    }

    static void part(String name) {
        part = name;
    }

    static void same(String what, long got, long want) {
        done++;
        if (got != want) {
            tellWrong(what + " answered " + got + ", due is " + want);
        }
    }

    static void same(String what, int[] got, int[] want) {
        done++;
        if (!Arrays.equals(got, want)) {
            tellWrong(what + " answered " + Arrays.toString(got) + ", due is " + Arrays.toString(want));
        }
    }

    static void yes(String what, boolean got) {
        same(what, got ? 1 : 0, 1);
    }

    static void no(String what, boolean got) {
        same(what, got ? 1 : 0, 0);
    }

    private static void tellWrong(String what) {
        wrong++;
        System.out.println(part + ": " + what);
    }

    static void end() {
        System.out.println(done + " answers looked at, " + wrong + " not as due");
        if (wrong != 0 || done == 0) {
            System.exit(1);
        }
    }
}
