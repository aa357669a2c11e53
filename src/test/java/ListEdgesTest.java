/** The boundary cases of the list of a text. */
public final class ListEdgesTest {
    public static void main(String[] args) {
        Edge.test("the text is cut at its slashes into pieces, at least one", ListEdgesTest::pieces);
        Edge.test("A piece is a DOT when it is . or %2e, and a DOUBLE DOT when it is two of these,"
                + " one behind the other (e or E in each).", ListEdgesTest::whatDotsAre);
        Edge.test("a double dot takes the last segment away, if there is one, and, if it is the last piece,"
                + " adds an empty one", ListEdgesTest::doubleDots);
        Edge.test("a dot adds an empty one if it is the last piece, else nothing", ListEdgesTest::dots);
        Edge.test("any other one, encoded by PATH, is added", ListEdgesTest::others);
        Edge.test("going on from a list that there is (none, if nothing is said)", ListEdgesTest::goingOn);
        Check.end();
    }

    /** The list of a text behind a host, special or not, and behind no host. */
    private static void list(String text, String path, int segments) {
        for (String start : new String[] {"http://h/", "q://h/", "q:/"}) {
            // Behind no host, a second slash would begin one.
            String whole = start.equals("q:/") && text.startsWith("/") ? "q:/./" + text : start + text;
            Edge.has(whole, Desk.PATH, path);
            Run.busy().read(whole, 1, -1).answers(Call.segments(1), segments);
        }
    }

    private static void pieces() {
        list("", "/", 1);
        list("a", "/a", 1);
        list("/", "//", 2);
        list("a/", "/a/", 2);
        list("/a", "//a", 2);
        list("a/b", "/a/b", 2);
        list("a//b", "/a//b", 3);
        list("//", "///", 3);
        list("a".repeat(80), "/" + "a".repeat(80), 1);
        list("/".repeat(80), "/".repeat(81), 81);
        Edge.has("http://h/a\\b", Desk.PATH, "/a/b");
        Edge.has("q://h/a\\b", Desk.PATH, "/a\\b");
    }

    private static void whatDotsAre() {
        for (String dot : new String[] {".", "%2e", "%2E"}) {
            list("a/" + dot + "/b", "/a/b", 2);
            for (String second : new String[] {".", "%2e", "%2E"}) {
                list("a/" + dot + second + "/b", "/b", 1);
                list("a/" + dot + second + ".", "/a/" + dot + second + ".", 2);
                list("a/" + dot + second + "%2e", "/a/" + dot + second + "%2e", 2);
                list("a/" + dot + second + "c", "/a/" + dot + second + "c", 2);
                list("a/c" + dot + second, "/a/c" + dot + second, 2);
            }
            list("a/" + dot + "c", "/a/" + dot + "c", 2);
            list("a/c" + dot, "/a/c" + dot, 2);
        }
        String[] others = {"...", "....", "%2", "%", "%2f", "%2d", "%2F", "%2D", "%3e", "%1e", "%e2", "%252e", "%2%2e", ".%2", "%2.", "2e", "%20"};
        for (String other : others) {
            list("a/" + other + "/b", "/a/" + other + "/b", 3);
        }
        list("a/. /b", "/a/.%20/b", 3);
        list("a/ ./b", "/a/%20./b", 3);
    }

    private static void doubleDots() {
        list("..", "/", 1);
        list("../", "/", 1);
        list("../a", "/a", 1);
        list("../..", "/", 1);
        list("../../a", "/a", 1);
        list("a/..", "/", 1);
        list("a/../", "/", 1);
        list("a/../b", "/b", 1);
        list("a/../..", "/", 1);
        list("a/../../b", "/b", 1);
        list("a/b/..", "/a/", 2);
        list("a/b/../", "/a/", 2);
        list("a/b/../..", "/", 1);
        list("a/b/../../c", "/c", 1);
        list("a//..", "/a/", 2);
        list("a//../..", "/", 1);
        list("/..", "/", 1);
        list("/../a", "/a", 1);
        list("a/" + "../".repeat(26) + "b", "/b", 1);
    }

    private static void dots() {
        list(".", "/", 1);
        list("./", "/", 1);
        list("./.", "/", 1);
        list("./a", "/a", 1);
        list("a/.", "/a/", 2);
        list("a/./", "/a/", 2);
        list("a/./b", "/a/b", 2);
        list("a/././b", "/a/b", 2);
        list("a/./.", "/a/", 2);
        list("a/b/./..", "/a/", 2);
        list("./" + "./".repeat(35) + "b", "/b", 1);
    }

    private static void others() {
        list("a//", "/a//", 3);
        list("a b", "/a%20b", 1);
        list("^`{}", "/%5E%60%7B%7D", 1);
        list("\u00ff", "/%C3%BF", 1);
        list("%20%", "/%20%", 1);
        list("@:;=|[]", "/@:;=|[]", 1);
    }

    private static void goingOn() {
        String[] texts = {"..", "../..", "../../..", "../../../..", ".", "x", "./x", "../x", "../../x", "../../../x", "x/..", "x/../.."};
        String[] paths = {"/a/", "/", "/", "/", "/a/b/", "/a/b/x", "/a/b/x", "/a/x", "/x", "/x", "/a/b/", "/a/"};
        for (int i = 0; i < texts.length; i++) {
            Edge.reads("q://h/a/b/c", texts[i], "q://h" + paths[i]);
            Edge.reads("http://h/a/b/c", texts[i], "http://h" + paths[i]);
            Edge.reads("q:/a/b/c", texts[i], "q:" + paths[i]);
        }
        Edge.reads("q://h", "..", "q://h/");
        Edge.reads("q://h", ".", "q://h/");
        Edge.reads("q://h", "../x", "q://h/x");
        Edge.reads("q://h/a/b", "/..", "q://h/");
        Edge.reads("q://h/a/b", "/../x", "q://h/x");
        Edge.reads("q://h/a/b", "//k/../x", "q://k/x");
    }
}
