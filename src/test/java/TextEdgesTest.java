/** The boundary cases of a URL's text, and of which parts are empty and which are none. */
public final class TextEdgesTest {
    public static void main(String[] args) {
        Edge.test("a USERNAME and a PASSWORD, perhaps empty; a HOST, or none; a PORT, or none",
                TextEdgesTest::emptyOrNone);
        Edge.test("a QUERY, or none; and a FRAGMENT, or none", TextEdgesTest::emptyOrNoTail);
        Edge.test("with a host: // and, when username or password is not empty, the username,"
                + " a colon and the password when this is not empty, and @", TextEdgesTest::credentials);
        Edge.test("then the host, and with a port a colon and it in decimal", TextEdgesTest::port);
        Edge.test("without host, when the path is a list of two or more segments the first of which is empty: /.",
                TextEdgesTest::dotBeforeThePath);
        Edge.test("then the path: the opaque text, or each segment with / before it", TextEdgesTest::path);
        Edge.test("with a query ? and it; with a fragment # and it", TextEdgesTest::tail);
        Edge.test("6 the path as it stands in the text (without /. )", TextEdgesTest::pathWithoutDot);
        Check.end();
    }

    private static void lengths(String text, int... want) {
        Run run = Run.busy().read(text, 1, -1);
        for (int part = 0; part < want.length; part++) {
            run.answers(Call.length(1, part), want[part]);
        }
    }

    private static void emptyOrNone() {
        lengths("q:", 2, 1, 0, 0, UrlDesk.NONE, UrlDesk.NONE, 0, UrlDesk.NONE, UrlDesk.NONE);
        lengths("q:/", 3, 1, 0, 0, UrlDesk.NONE, UrlDesk.NONE, 1, UrlDesk.NONE, UrlDesk.NONE);
        lengths("q://", 4, 1, 0, 0, 0, UrlDesk.NONE, 0, UrlDesk.NONE, UrlDesk.NONE);
        lengths("q://h", 5, 1, 0, 0, 1, UrlDesk.NONE, 0, UrlDesk.NONE, UrlDesk.NONE);
        lengths("q://u@h", 7, 1, 1, 0, 1, UrlDesk.NONE, 0, UrlDesk.NONE, UrlDesk.NONE);
        lengths("q://:p@h:0", 10, 1, 0, 1, 1, 1, 0, UrlDesk.NONE, UrlDesk.NONE);
        nothingIsLeftOver();
    }

    /** Each part of a longer URL is gone when a shorter one is read in its place, time and again. */
    private static void nothingIsLeftOver() {
        Run run = Run.busy();
        int[] want = {2, 1, 0, 0, UrlDesk.NONE, UrlDesk.NONE, 0, UrlDesk.NONE, UrlDesk.NONE};
        for (int n = 0; n < 3; n++) {
            // Once more at every second time: whichever room it is written in, nothing was left there.
            run.read("http://us:pw@ho:88/a/b?c#d", 1, -1).read("q:", 1, -1);
            if (n % 2 == 0) {
                run.then(Call.read(1, -1));
            }
            for (int part = 0; part < 9; part++) {
                run.answers(Call.length(1, part), want[part]);
            }
            run.answers(Call.port(1), UrlDesk.NONE).answers(Call.segments(1), UrlDesk.NONE);
        }
    }

    private static void emptyOrNoTail() {
        lengths("q:?", 3, 1, 0, 0, UrlDesk.NONE, UrlDesk.NONE, 0, 0, UrlDesk.NONE);
        lengths("q:#", 3, 1, 0, 0, UrlDesk.NONE, UrlDesk.NONE, 0, UrlDesk.NONE, 0);
        lengths("q:?#", 4, 1, 0, 0, UrlDesk.NONE, UrlDesk.NONE, 0, 0, 0);
        lengths("q:?a#b", 6, 1, 0, 0, UrlDesk.NONE, UrlDesk.NONE, 0, 1, 1);
    }

    private static void credentials() {
        Edge.reads("http://h", "http://h/");
        Edge.reads("http://@h", "http://h/");
        Edge.reads("http://:@h", "http://h/");
        Edge.reads("http://u@h", "http://u@h/");
        Edge.reads("http://u:@h", "http://u@h/");
        Edge.reads("http://:p@h", "http://:p@h/");
        Edge.reads("http://u:p@h", "http://u:p@h/");
        Edge.sets("q://u:p@h", "", Desk.USERNAME, "q://:p@h");
        Edge.sets("q://u:p@h", "", Desk.PASSWORD, "q://u@h");
        Edge.sets("q://u@h", "", Desk.USERNAME, "q://h");
        Edge.sets("q://:p@h", "", Desk.PASSWORD, "q://h");
    }

    private static void port() {
        int[] ports = {0, 1, 9, 10, 11, 99, 100, 101, 999, 1000, 1001, 9999, 10000, 10001, 60000, 65534, 65535};
        for (int port : ports) {
            Edge.reads("q://h:" + port, "q://h:" + port);
            Edge.has("q://h:" + port + "/", Desk.PORT, "" + port);
        }
        Edge.reads("q://h", "q://h");
        Edge.has("q://h", Desk.PORT, null);
    }

    private static void dotBeforeThePath() {
        Edge.reads("q:/", "q:/");
        Edge.reads("q:/.//", "q:/.//");
        Edge.reads("q:/..//a", "q:/.//a");
        Edge.reads("q:/a/..//b", "q:/.//b");
        Edge.reads("q:/.///", "q:/.///");
        Edge.reads("q:/a//", "q:/a//");
        Edge.reads("q:/a/", "q:/a/");
        Edge.reads("q:////a", "q:////a");
        Edge.reads("q://h/.//a", "q://h//a");
        Edge.reads("http://h/.//a", "http://h//a");
        Edge.reads("q:/a", ".//b", "q:/.//b");
        Edge.reads("q:/.//a", "b", "q:/.//b");
        Edge.reads("q:/.//a", "", "q:/.//a");
        Edge.reads("q:/.//a", "..", "q:/");
        Edge.reads("q://h/a", ".//b", "q://h//b");
        Edge.sets("q:/.//a", "b", Desk.QUERY, "q:/.//a?b");
    }

    private static void path() {
        Edge.reads("q:", "q:");
        Edge.reads("q:a/", "q:a/");
        Edge.reads("q://h", "q://h");
        Edge.reads("q://h/", "q://h/");
        Edge.reads("q://h//", "q://h//");
        Edge.reads("q://h/a", "q://h/a");
        Edge.reads("q://h/a/", "q://h/a/");
    }

    private static void tail() {
        Edge.reads("q:a", "q:a");
        Edge.reads("q:a?", "q:a?");
        Edge.reads("q:a#", "q:a#");
        Edge.reads("q:a?#", "q:a?#");
        Edge.reads("q:a?b", "q:a?b");
        Edge.reads("q:a#c", "q:a#c");
        Edge.reads("q:a?b#c", "q:a?b#c");
        Edge.reads("q://h?", "q://h?");
        Edge.reads("q://h#", "q://h#");
        Edge.reads("http://h?", "http://h/?");
    }

    private static void pathWithoutDot() {
        Edge.has("q:/.//", Desk.PATH, "//");
        Edge.has("q:/.//a", Desk.PATH, "//a");
        Edge.has("q:/.", Desk.PATH, "/");
        Edge.has("q:/./a", Desk.PATH, "/a");
        Edge.has("q:////a", Desk.PATH, "//a");
        Edge.has("q:", Desk.PATH, "");
        Edge.has("q://h", Desk.PATH, "");
        Edge.has("http://h", Desk.PATH, "/");
        Run run = Run.busy().read("q:/.//a", 1, -1).then(Call.copy(1, 3));
        run.answers(Call.charAt(3, Desk.PATH, 0), '/').answers(Call.charAt(3, Desk.PATH, 2), 'a');
        run.answers(Call.charAt(3, Desk.PATH, 3), UrlDesk.NONE).answers(Call.segments(3), 2);
    }
}
