import java.util.Objects;

/** Counts the answers of one test that are not as due. */
final class Check {
    private static int made = 0;
    private static int wrong = 0;

    private Check() {
    }

    static void due(String what, Object got, Object want) {
        made++;
        if (!Objects.equals(got, want)) {
            wrong++;
            System.out.println(what + " answered " + got + ", due is " + want);
        }
    }

    static boolean allWell() {
        return wrong == 0;
    }

    /** To be called last by each main method. */
    static void end() {
        System.out.println(made + " answers, " + wrong + " of them wrong");
        if (wrong != 0 || made == 0) {
            System.exit(1);
        }
    }
}
