/** The boundary cases of an authority: credentials, port, empty host, and the path behind it. */
public final class AuthorityEdgesTest {
    private static final String[] SPECIAL = {"ftp", "http", "https", "ws", "wss"};

    public static void main(String[] args) {
        Edge.test("what is before the first slash of the rest (all, if there is none)", AuthorityEdgesTest::firstSlash);
        Edge.test("When it has an @, what is before the last @ are the CREDENTIALS", AuthorityEdgesTest::lastAt);
        Edge.test("what is behind the last @ goes on", AuthorityEdgesTest::behindTheLastAt);
        Edge.test("username before the first colon of these, password behind it, both encoded by USERINFO",
                AuthorityEdgesTest::firstColon);
        Edge.test("A colon that is not between [ and the next ] (or the end) and is the first such one ends the host",
                AuthorityEdgesTest::colonOfThePort);
        Edge.test("it must be digits alone, perhaps none (else it fails)", AuthorityEdgesTest::digitsAlone);
        Edge.test("of a number up to 65535", AuthorityEdgesTest::highestPort);
        Edge.test("the usual one of the scheme, or no digits, is no port", AuthorityEdgesTest::noPort);
        Edge.test("The host text is empty: it fails when the scheme is special, when there was an @,"
                + " or when there was a colon behind it; else the host is the empty text.",
                AuthorityEdgesTest::emptyHost);
        Edge.test("The path is the list of what is behind the first slash of the rest, or no segments"
                + " if there is no slash (for a special scheme, one empty segment).", AuthorityEdgesTest::pathBehind);
        Check.end();
    }

    private static void firstSlash() {
        Edge.reads("q://h", "q://h");
        Edge.reads("q://h/", "q://h/");
        Edge.reads("q://h/k/l", "q://h/k/l");
        Edge.reads("q://h/@k", "q://h/@k");
        Edge.reads("q://h/:8", "q://h/:8");
        Edge.reads("q:///h", "q:///h");
        Edge.reads("http://h", "http://h/");
        Edge.reads("http://h/@k:x", "http://h/@k:x");
        Edge.reads("http://h\\@k:x", "http://h/@k:x");
        Edge.reads("q://u\\v@h", "q://u%5Cv@h");
    }

    private static void credentials(String text, String username, String password, String host) {
        Edge.has(text, Desk.USERNAME, username);
        Edge.has(text, Desk.PASSWORD, password);
        Edge.has(text, Desk.HOST, host);
    }

    private static void lastAt() {
        credentials("q://h", "", "", "h");
        credentials("q://@h", "", "", "h");
        credentials("q://u@h", "u", "", "h");
        credentials("q://u@v@h", "u%40v", "", "h");
        credentials("q://@@h", "%40", "", "h");
        credentials("q://u:p@v@h", "u", "p%40v", "h");
        credentials("http://u@h/x@y", "u", "", "h");
        credentials("http://[@h", "%5B", "", "h");
    }

    private static void behindTheLastAt() {
        Edge.reads("q://u@h", "q://u@h");
        Edge.reads("q://u@h:8", "q://u@h:8");
        Edge.reads("q://u:9@h:8", "q://u:9@h:8");
        Edge.reads("q://u:x@h:8", "q://u:x@h:8");
        Edge.reads("http://a b@h", "http://a%20b@h/");
        Edge.reads("http://u@1", "http://u@0.0.0.1/");
        Edge.fails("q://u@h:x");
        Edge.fails("q://h:8@");
        Edge.fails("http://h@a b");
    }

    private static void firstColon() {
        credentials("q://u@h", "u", "", "h");
        credentials("q://u:@h", "u", "", "h");
        credentials("q://:p@h", "", "p", "h");
        credentials("q://:@h", "", "", "h");
        credentials("q://u:p@h", "u", "p", "h");
        credentials("q://u:p:r@h", "u", "p%3Ar", "h");
        credentials("q://u::@h", "u", "%3A", "h");
        credentials("q://::@h", "", "%3A", "h");
        credentials("q://[u:p]@h", "%5Bu", "p%5D", "h");
        credentials("http://\u00e9;:=|@h", "%C3%A9%3B", "%3D%7C", "h");
        credentials("q://u:p@h:8", "u", "p", "h");
    }

    private static void colonOfThePort() {
        Edge.reads("q://h:8", "q://h:8");
        Edge.reads("q://[::1]", "q://[::1]");
        Edge.reads("q://[::1]:8", "q://[::1]:8");
        Edge.reads("q://[::1]:", "q://[::1]");
        Edge.reads("q://u:9@[::1]:8", "q://u:9@[::1]:8");
        Edge.reads("http://[::1]:8", "http://[::1]:8/");
        Edge.fails("q://[::1");
        Edge.fails("q://[::1:8");
        Edge.fails("http://[::1:8");
        Edge.fails("q://[::1]]:8");
        Edge.fails("q://[::1]8");
        Edge.fails("q://[::1]:8:9");
        Edge.fails("q://]:8");
        Edge.fails("q://h:8:9");
        Edge.fails("q://h::");
        Edge.fails("q://h:[8]");
        Edge.fails("q://[:]:8");
    }

    private static void digitsAlone() {
        Edge.reads("q://h:01234", "q://h:1234");
        Edge.reads("q://h:56789", "q://h:56789");
        Edge.reads("q://h:", "q://h");
        Edge.reads("q://h:/", "q://h/");
        Edge.reads("q://h:?", "q://h?");
        Edge.reads("q://h:8", "q://h:8");
        for (String port : new String[] {"x", "8x", "x8", "8x8", "+8", "-8", "8.", "8 8", "%38", "8;", "a", "\u00e9", "8:", "0x8"}) {
            Edge.fails("q://h:" + port);
            Edge.fails("http://h:" + port);
            Edge.fails("http://u@[::1]:" + port + "/");
        }
        Edge.fails("http://h: 8");
        Edge.fails("http://h:8 /");
    }

    private static void highestPort() {
        String zeros = "0".repeat(80);
        for (String scheme : new String[] {"q", "http"}) {
            String end = scheme.equals("q") ? "" : "/";
            Edge.reads(scheme + "://h:0", scheme + "://h:0" + end);
            Edge.reads(scheme + "://h:1", scheme + "://h:1" + end);
            Edge.reads(scheme + "://h:65534", scheme + "://h:65534" + end);
            Edge.reads(scheme + "://h:65535", scheme + "://h:65535" + end);
            Edge.reads(scheme + "://h:" + zeros + "65535", scheme + "://h:65535" + end);
            Edge.reads(scheme + "://h:00000", scheme + "://h:0" + end);
            Edge.fails(scheme + "://h:65536");
            Edge.fails(scheme + "://h:" + zeros + "65536");
            Edge.fails(scheme + "://h:65540");
            Edge.fails(scheme + "://h:70000");
            Edge.fails(scheme + "://h:99999");
            Edge.fails(scheme + "://h:100000");
            Edge.fails(scheme + "://h:655350");
            // What wraps around to a small number in 16, 32 and 64 bits.
            Edge.fails(scheme + "://h:65544");
            Edge.fails(scheme + "://h:2147483648");
            Edge.fails(scheme + "://h:4294967296");
            Edge.fails(scheme + "://h:4294967304");
            Edge.fails(scheme + "://h:18446744073709551616");
            Edge.fails(scheme + "://h:18446744073709551624");
            Edge.fails(scheme + "://h:" + "9".repeat(88));
        }
    }

    private static void noPort() {
        int[] usual = {21, 80, 443, 80, 443};
        for (int i = 0; i < SPECIAL.length; i++) {
            String start = SPECIAL[i] + "://h";
            Edge.reads(start + ":", start + "/");
            Edge.reads(start + ":" + usual[i], start + "/");
            Edge.reads(start + ":000" + usual[i], start + "/");
            Run.busy().read(start + ":" + usual[i], 1, -1).answers(Call.port(1), UrlDesk.NONE);
            Run.busy().read(start + ":", 1, -1).answers(Call.port(1), UrlDesk.NONE);
            Run.busy().read(start + ":0", 1, -1).answers(Call.port(1), 0);
            for (int other : new int[] {21, 80, 443}) {
                int want = other == usual[i] ? UrlDesk.NONE : other;
                Run.busy().read(start + ":" + other, 1, -1).answers(Call.port(1), want);
            }
        }
        Run.busy().read("q://h:", 1, -1).answers(Call.port(1), UrlDesk.NONE);
        Run.busy().read("q://h:80", 1, -1).answers(Call.port(1), 80);
        Run.busy().read("q://h:0", 1, -1).answers(Call.port(1), 0);
    }

    private static void emptyHost() {
        Edge.reads("q://", "q://");
        Edge.reads("q:///", "q:///");
        Edge.reads("q://?", "q://?");
        Edge.reads("q://#", "q://#");
        Edge.has("q://", Desk.HOST, "");
        Edge.has("q:///a", Desk.HOST, "");
        for (String authority : new String[] {"@", "u@", "u:p@", "@@", ":", ":8", "@:", "@:8", "u@:8"}) {
            Edge.fails("q://" + authority);
            Edge.fails("q://" + authority + "/a");
            Edge.fails("http://" + authority);
            Edge.fails("http://" + authority + "/a");
        }
        for (String scheme : SPECIAL) {
            Edge.fails(scheme + "://");
            Edge.fails(scheme + ":///");
            Edge.fails(scheme + "://?a");
            Edge.fails(scheme + "://#a");
        }
        Edge.reads("q://h/a", "//", "q://");
        Edge.fails("q://h/a", "//@");
        Edge.fails("q://h/a", "//:");
        Edge.fails("http://h/a", "//");
    }

    private static void path(String text, String path, int segments) {
        Edge.has(text, Desk.PATH, path);
        Run.busy().read(text, 1, -1).answers(Call.segments(1), segments);
    }

    private static void pathBehind() {
        path("q://h", "", 0);
        path("q://h?a/b", "", 0);
        path("q://h#a/b", "", 0);
        path("q://", "", 0);
        path("q://h/", "/", 1);
        path("q:///", "/", 1);
        path("q://h/a", "/a", 1);
        path("q://h//", "//", 2);
        path("q://h/.", "/", 1);
        path("q://h/..", "/", 1);
        path("q://h:8", "", 0);
        for (String scheme : SPECIAL) {
            path(scheme + "://h", "/", 1);
            path(scheme + "://h?a/b", "/", 1);
            path(scheme + "://h/", "/", 1);
            path(scheme + "://h\\", "/", 1);
            path(scheme + "://h//", "//", 2);
        }
    }
}
