/** The boundary cases of reading a text, up to where its authority begins. */
public final class ReadingEdgesTest {
    public static void main(String[] args) {
        Edge.test("SPECIAL schemes and their usual ports: ftp 21, http 80, https 443, ws 80, wss 443.",
                ReadingEdgesTest::specialSchemes);
        Edge.test("A SLASH is / and, for a special scheme, \\ too.", ReadingEdgesTest::slashes);
        Edge.test("first all characters up to 32 at its beginning and at its end are taken off",
                ReadingEdgesTest::takenOffTheEnds);
        Edge.test("then every 9, 10 and 13 in it", ReadingEdgesTest::takenOut);
        Edge.test("When this begins with a letter, then perhaps letters, digits, + - . and then a colon,"
                + " what is before the colon, in small letters, is the scheme", ReadingEdgesTest::schemes);
        Edge.test("else there is no scheme, and rest is all", ReadingEdgesTest::noSchemes);
        Edge.test("Then the FRAGMENT is what is behind the first # of the rest, if there is one",
                ReadingEdgesTest::fragments);
        Edge.test("and the QUERY what is behind the first ? of what is before that, if there is one",
                ReadingEdgesTest::queries);
        Edge.test("when there is a base with the same scheme, and the rest does not begin with two /"
                + " (a \\ is not meant here), it goes on as RELATIVE", ReadingEdgesTest::sameScheme);
        Edge.test("Otherwise all slashes at the beginning of the rest are taken off", ReadingEdgesTest::allSlashes);
        Edge.test("when the rest begins with // these are taken off, and it goes on with the authority;"
                + " when it begins with one /, there is no host, and the path is the list of what is behind"
                + " the first slash; otherwise the path is opaque", ReadingEdgesTest::otherSchemes);
        Edge.test("Without a scheme: without base it FAILS.", ReadingEdgesTest::noBase);
        Edge.test("When the base's path is opaque: it fails unless the rest is empty, there is no query and there is"
                + " a fragment; then all but the fragment is the base's.", ReadingEdgesTest::opaqueBase);
        Edge.test("Otherwise the scheme is the base's, and it goes on as relative.", ReadingEdgesTest::baseScheme);
        Edge.test("when the rest begins with two slashes, these are taken off (for a special scheme all slashes"
                + " at its beginning)", ReadingEdgesTest::relativeWithTwoSlashes);
        Edge.test("Otherwise username, password, host and port are the base's.", ReadingEdgesTest::baseAuthority);
        Edge.test("When the rest begins with a slash, the path is the list of what is behind that.",
                ReadingEdgesTest::relativeWithOneSlash);
        Edge.test("When the rest is empty, the path is the base's, and so is the query if there is none in the text.",
                ReadingEdgesTest::relativeEmpty);
        Edge.test("Else the path is the base's list without its last segment, and behind it the list of the rest.",
                ReadingEdgesTest::relativeList);
        Check.end();
    }

    private static void usualPort(String scheme, int port) {
        Edge.reads(scheme + "://h:" + (port - 1), scheme + "://h:" + (port - 1) + "/");
        Edge.reads(scheme + "://h:" + port, scheme + "://h/");
        Edge.reads(scheme + "://h:" + (port + 1), scheme + "://h:" + (port + 1) + "/");
        Edge.sets(scheme + "://h:7", "" + (port - 1), Desk.PORT, scheme + "://h:" + (port - 1) + "/");
        Edge.sets(scheme + "://h:7", "" + port, Desk.PORT, scheme + "://h/");
        Edge.sets(scheme + "://h:7", "" + (port + 1), Desk.PORT, scheme + "://h:" + (port + 1) + "/");
    }

    private static void specialSchemes() {
        usualPort("ftp", 21);
        usualPort("http", 80);
        usualPort("https", 443);
        usualPort("ws", 80);
        usualPort("wss", 443);
        String[] others = {
            "ft", "ftps", "ftq", "xtp", "htt", "httpx", "httq", "xttp", "httpss", "httpt", "xttps", "w", "wt", "xs", "wsss",
            "wst", "xss", "xhttp", "http.", "file"
        };
        for (String scheme : others) {
            Edge.reads(scheme + ":h", scheme + ":h");
            Edge.reads(scheme + "://H:80", scheme + "://H:80");
            Edge.reads(scheme + "://h:21", scheme + "://h:21");
            Edge.reads(scheme + "://h:443", scheme + "://h:443");
        }
    }

    private static void slashes() {
        Edge.reads("http://h\\a\\b", "http://h/a/b");
        Edge.reads("ws:\\\\h\\..\\a", "ws://h/a");
        Edge.reads("q://h/a\\b", "q://h/a\\b");
        Edge.reads("q:\\\\h", "q:\\\\h");
        Edge.reads("q:/\\h", "q:/\\h");
        Edge.reads("http://h/a", "\\b", "http://h/b");
        Edge.reads("q://h/a", "\\b", "q://h/\\b");
        Edge.fails("q://h\\a");
    }

    private static void takenOffTheEnds() {
        Edge.reads("\u0001q:a\u0001", "q:a");
        Edge.reads("\u001fq:a\u001f", "q:a");
        Edge.reads(" q:a ", "q:a");
        Edge.reads(" \u0001\t\n\r\u001f q:a\u0001\t\n\r\u001f  ", "q:a");
        Edge.reads("q:a!", "q:a!");
        Edge.reads("q:a\u007f", "q:a%7F");
        Edge.reads("q: a", "q: a");
        Edge.reads("q:a #  ", "q:a #");
        Edge.reads("q:\u001fa", "q:%1Fa");
        Edge.fails("!q:a");
        Edge.fails(" ");
        Edge.fails("\u0001 \u001f\t");
        Edge.reads("http://h/a?b#c", " ", "http://h/a?b");
        Edge.reads("http://h/a?b#c", "!", "http://h/!");
        Edge.reads("http://h/a", "! !", "http://h/!%20!");
    }

    private static void takenOut() {
        Edge.reads("q:a\tb\nc\rd", "q:abcd");
        Edge.reads("\tq\n:\r/\t/\nh\r/\ta", "q://h/a");
        Edge.reads("ht\ttp://h:\n8\r0/.\t./%2\ne/a", "http://h/a");
        Edge.reads("q:a\u0008b\u000bc\u000cd\u000ee", "q:a%08b%0Bc%0Cd%0Ee");
        Edge.reads("q:a \t b", "q:a  b");
        Edge.reads("q:?\t#\n", "q:?#");
        Edge.fails("\t\n\r");
    }

    private static void schemes() {
        Edge.reads("a:x", "a:x");
        Edge.reads("z:x", "z:x");
        Edge.reads("A:x", "a:x");
        Edge.reads("Z:x", "z:x");
        Edge.reads("aAzZ09+-.:x", "aazz09+-.:x");
        Edge.reads("a:", "a:");
        Edge.reads("a::", "a::");
        Edge.reads("a:b:c", "a:b:c");
        Edge.reads("A:B", "a:B");
        String longest = "a".repeat(99);
        Edge.reads(longest + ":", longest + ":");
    }

    private static void noSchemes() {
        for (char c : "@[`{019+-.:/\u00e9\u00c1\u00df".toCharArray()) {
            Edge.fails(c + "a:x");
        }
        for (char c : "*,/@[`{_%~ \u00e9".toCharArray()) {
            Edge.fails("a" + c + "b:x");
        }
        Edge.fails("a;b:x");
        Edge.fails("abc");
        Edge.fails("a".repeat(100));
        Edge.fails(":");
        Edge.fails("");
        Edge.reads("http://h/a/b", "1a:x", "http://h/a/1a:x");
        Edge.reads("http://h/a/b", "a,b:x", "http://h/a/a,b:x");
        Edge.reads("http://h/a/b", ":", "http://h/a/:");
        Edge.reads("http://h/a/b", "abc", "http://h/a/abc");
        Edge.reads("http://h/a/b", "a?b:c", "http://h/a/a?b:c");
    }

    private static void fragments() {
        Edge.has("q:a", Desk.FRAGMENT, null);
        Edge.has("q:a#", Desk.FRAGMENT, "");
        Edge.has("q:a#b", Desk.FRAGMENT, "b");
        Edge.has("q:a#b#c", Desk.FRAGMENT, "b#c");
        Edge.has("q:a##", Desk.FRAGMENT, "#");
        Edge.has("q:a#?b", Desk.FRAGMENT, "?b");
        Edge.has("q:#", Desk.FRAGMENT, "");
        Edge.has("http://h#", Desk.FRAGMENT, "");
        Edge.has("http://h#@k/a", Desk.HOST, "h");
    }

    private static void queries() {
        Edge.has("q:a", Desk.QUERY, null);
        Edge.has("q:a?", Desk.QUERY, "");
        Edge.has("q:a?b", Desk.QUERY, "b");
        Edge.has("q:a?b?c", Desk.QUERY, "b?c");
        Edge.has("q:a??", Desk.QUERY, "?");
        Edge.has("q:a?#b", Desk.QUERY, "");
        Edge.has("q:a#b?c", Desk.QUERY, null);
        Edge.has("q:?", Desk.QUERY, "");
        Edge.has("http://h?", Desk.QUERY, "");
        Edge.has("http://h?@k/a", Desk.HOST, "h");
        Edge.has("http://h?/a/..", Desk.PATH, "/");
    }

    private static void sameScheme() {
        String base = "http://u:p@h:8/a/b?c#d";
        Edge.reads(base, "http:", "http://u:p@h:8/a/b?c");
        Edge.reads(base, "HTTP:x", "http://u:p@h:8/a/x");
        Edge.reads(base, "http:/x", "http://u:p@h:8/x");
        Edge.reads(base, "http:\\x", "http://u:p@h:8/x");
        Edge.reads(base, "http://x", "http://x/");
        Edge.reads(base, "http:///x", "http://x/");
        Edge.reads(base, "http:\\\\x", "http://x/");
        Edge.reads(base, "http:/\\x", "http://x/");
        Edge.reads(base, "http:?x", "http://u:p@h:8/a/b?x");
        Edge.reads(base, "http:#x", "http://u:p@h:8/a/b?c#x");
        Edge.reads(base, "https:x", "https://x/");
        Edge.reads(base, "ws:x", "ws://x/");
        Edge.fails(base, "https:");
        Edge.fails(base, "http://");
        Edge.fails(base, "http:\\\\");
        Edge.reads("ws://h/a", "http:x", "http://x/");
        Edge.reads("wss://h/a", "https:x", "https://x/");
        Edge.reads("q://h/a", "q:x", "q:x");
        Edge.reads("http:k", "http://k/");
    }

    private static void allSlashes() {
        for (String slashes : new String[] {"", "/", "\\", "//", "\\\\", "/\\", "\\/", "///", "\\/\\", "//////////"}) {
            Edge.reads("http:" + slashes + "h", "http://h/");
            Edge.reads("http:" + slashes + "h//a", "http://h//a");
            Edge.fails("http:" + slashes);
            Edge.fails("http:" + slashes + "?a");
        }
    }

    private static void other(String text, String host, String path, int segments) {
        Edge.has(text, Desk.HOST, host);
        Edge.has(text, Desk.PATH, path);
        Run.busy().read(text, 1, -1).answers(Call.segments(1), segments);
    }

    private static void otherSchemes() {
        other("q:", null, "", UrlDesk.NONE);
        other("q:a", null, "a", UrlDesk.NONE);
        other("q:a//b/..", null, "a//b/..", UrlDesk.NONE);
        other("q:?", null, "", UrlDesk.NONE);
        other("q:/", null, "/", 1);
        other("q:/a", null, "/a", 1);
        other("q:/\\", null, "/\\", 1);
        other("q://", "", "", 0);
        other("q:///", "", "/", 1);
        other("q:////", "", "//", 2);
        other("q://h", "h", "", 0);
        other("q://h/", "h", "/", 1);
        Edge.reads("q://h/a/b", "q:", "q:");
        Edge.reads("q://h/a/b", "q:/", "q:/");
        Edge.reads("q://h/a/b", "q:?x", "q:?x");
    }

    private static void noBase() {
        for (String text : new String[] {"", "a", "/", "/a", "//h", "//h/a", "?", "?a", "#", "#a", ".", ".."}) {
            Edge.fails(text);
        }
        Run run = Run.busy().draft("a").refuses(Call.read(0, -1)).takes(Call.read(3, 0));
        Check.due("with a base", run.text(3), "http://u:p@h:8/a/a");
    }

    private static void opaqueBase() {
        String base = "q:a/b?c#d";
        Edge.reads(base, "#", "q:a/b?c#");
        Edge.reads(base, "#x", "q:a/b?c#x");
        Edge.reads(base, "#?x", "q:a/b?c#?x");
        Edge.reads("q:a", "#x", "q:a#x");
        Edge.reads("q:", "#x", "q:#x");
        for (String text : new String[] {"", "?", "?x", "?#x", "?x#y", "x", "x#y", "/", "/#x", "//h", ".", "\\#x", "!#x"}) {
            Edge.fails(base, text);
        }
        Run run = Run.busy().draft("#x").takes(Call.read(1, 2));
        run.answers(Call.segments(1), UrlDesk.NONE).answers(Call.length(1, Desk.HOST), UrlDesk.NONE);
        Edge.reads(base, "q:x", "q:x");
        Edge.reads(base, "http:x", "http://x/");
    }

    private static void baseScheme() {
        for (String scheme : new String[] {"ftp", "http", "https", "ws", "wss"}) {
            Edge.reads(scheme + "://h/a", "", scheme + "://h/a");
            Edge.reads(scheme + "://h/a", "//K:8\\b?'", scheme + "://k:8/b?%27");
            boolean usual = scheme.equals("http") || scheme.equals("ws");
            Edge.reads(scheme + "://h/a", "//k:80", scheme + (usual ? "://k/" : "://k:80/"));
        }
        Edge.reads("q://h/a", "//K:80/b\\c?'", "q://K:80/b\\c?'");
        Edge.reads("q:/a", "b", "q:/b");
        Edge.reads("Q.1:/a", "b", "q.1:/b");
    }

    private static void relativeWithTwoSlashes() {
        Edge.reads("q://u@h:8/a?b", "/k", "q://u@h:8/k");
        Edge.reads("q://u@h:8/a?b", "//k", "q://k");
        Edge.reads("q://u@h:8/a?b", "///k", "q:///k");
        Edge.reads("q://u@h:8/a?b", "////k", "q:////k");
        Edge.reads("q://u@h:8/a?b", "//", "q://");
        Edge.reads("q://u@h:8/a?b", "/\\k", "q://u@h:8/\\k");
        for (String slashes : new String[] {"//", "\\\\", "/\\", "\\/", "///", "\\\\\\\\"}) {
            Edge.reads("http://u@h:8/a?b", slashes + "k", "http://k/");
            Edge.fails("http://u@h:8/a?b", slashes);
        }
        Edge.reads("http://u@h:8/a?b", "\\k", "http://u@h:8/k");
    }

    private static void baseAuthority() {
        String base = "q://u:p@h:8/a";
        String[] rests = {"", "x", "/x", "?x", "#x"};
        String[] paths = {"/a", "/x", "/x", "/a?x", "/a#x"};
        for (int i = 0; i < rests.length; i++) {
            Edge.reads(base, rests[i], "q://u:p@h:8" + paths[i]);
            Edge.reads("q:/a", rests[i], "q:" + paths[i]);
            Edge.reads("q:///a", rests[i], "q://" + paths[i]);
            Edge.reads("q://:p@h/a", rests[i], "q://:p@h" + paths[i]);
            Edge.reads("q://h:0/a", rests[i], "q://h:0" + paths[i]);
        }
        Run run = Run.busy().draft("x").takes(Call.read(3, 0)).answers(Call.port(3), 8);
        run.draft("//k").takes(Call.read(3, 0)).answers(Call.port(3), UrlDesk.NONE);
    }

    private static void relativeWithOneSlash() {
        Edge.reads("q://h/a/b?c", "/", "q://h/");
        Edge.reads("q://h/a/b?c", "/.", "q://h/");
        Edge.reads("q://h/a/b?c", "/..", "q://h/");
        Edge.reads("q://h/a/b?c", "/x/y", "q://h/x/y");
        Edge.reads("q://h", "/", "q://h/");
        Edge.reads("q:/a", "/", "q:/");
    }

    private static void relativeEmpty() {
        Edge.reads("q://h/a/b?c#d", "", "q://h/a/b?c");
        Edge.reads("q://h/a/b?c#d", "#", "q://h/a/b?c#");
        Edge.reads("q://h/a/b?c#d", "?", "q://h/a/b?");
        Edge.reads("q://h/a/b?c#d", "?x", "q://h/a/b?x");
        Edge.reads("q://h/a/b?c#d", "?#", "q://h/a/b?#");
        Edge.reads("q://h/a/b?#d", "", "q://h/a/b?");
        Edge.reads("q://h/a/b#d", "", "q://h/a/b");
        Edge.reads("q://h#d", "", "q://h");
        Edge.reads("q://h/", "?", "q://h/?");
        Edge.reads("http://h/a/b?c#d", "", "http://h/a/b?c");
    }

    private static void relativeList() {
        Edge.reads("q://h", "x", "q://h/x");
        Edge.reads("q://h/", "x", "q://h/x");
        Edge.reads("q://h/a", "x", "q://h/x");
        Edge.reads("q://h/a/", "x", "q://h/a/x");
        Edge.reads("q://h/a/b", "x", "q://h/a/x");
        Edge.reads("q://h/a/b", "x/", "q://h/a/x/");
        Edge.reads("q://h/a/b", ".", "q://h/a/");
        Edge.reads("q://h/a/b", "..", "q://h/");
        Edge.reads("q://h/a/b", "../..", "q://h/");
        Edge.reads("q://h/a/b", "../../x", "q://h/x");
        Edge.reads("q://h/a/b?c", "x?", "q://h/a/x?");
        Edge.reads("q://h/a/b?c", "x", "q://h/a/x");
        Edge.reads("q://h", "..", "q://h/");
        Edge.reads("q://h//", "x", "q://h//x");
    }
}
