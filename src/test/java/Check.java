import java.util.Objects;

/** Counts the answers of one test that are not as due. */
final class Check {
    private static int made = 0;
    private static int wrong = 0;
    private static String heading = "";

    private Check() {
    }

    /** What the answers from here on are about. */
    static void under(String what) {
        heading = what + ": ";
    }

    /** What the answers of a few checks are about, beside what all are about here. */
    static void under(String what, Runnable checks) {
        String before = heading;
        heading = before + Edge.told(what) + ": ";
        checks.run();
        heading = before;
    }

    static void due(String what, Object got, Object want) {
        made++;
        if (!Objects.equals(got, want)) {
            wrong++;
            System.out.println(heading + what + " answered " + got + ", due is " + want);
        }
    }

    static int made() {
        return made;
    }

    static boolean allWell() {
        return wrong == 0;
    }

    /** To be called last by each main method. */
    static void end() {
        System.out.println(made + " answers, " + wrong + " of them wrong");
        if (wrong != 0 || made == 0) {
            System.exit(1);
        }
    }
}
