/** Promise 4: read, and what reading makes of scheme, base, authority, query and fragment. */
public final class ReadTest {
    public static void main(String[] args) {
        slotsAndBases();
        failingChangesNothing();
        draftStays();
        slotAndBaseMayBeTheSame();
        trimming();
        schemes();
        specialSchemes();
        otherSchemes();
        withoutScheme();
        opaqueBases();
        relative();
        relativeWithSpecialScheme();
        queryAndFragment();
        credentials();
        ports();
        emptyHosts();
        Check.end();
    }

    private static void alone(String text, String want) {
        Check.due("read " + text, Desk.readAlone(text), want);
    }

    private static void with(String base, String text, String want) {
        Check.due("read " + text + " with " + base, Desk.readWith(base, text), want);
    }

    private static void slotsAndBases() {
        Desk desk = new Desk();
        desk.draft("q:a");
        int[] wrong = {-1, 4, Integer.MIN_VALUE, Integer.MAX_VALUE};
        for (int slot : wrong) {
            Check.due("read into " + slot, desk.call().read(slot, -1), false);
        }
        for (int base : new int[] {-2, 4, Integer.MIN_VALUE, Integer.MAX_VALUE, 0, 1, 2, 3}) {
            Check.due("read with " + base, desk.call().read(0, base), false);
        }
        for (int slot = 0; slot < 4; slot++) {
            Check.due("read into " + slot, desk.call().read(slot, -1), true);
            Check.due("text of " + slot, desk.text(slot), "q:a");
        }
        Check.due("read with 3", desk.call().read(0, 3), true);
    }

    private static void failingChangesNothing() {
        Desk desk = Desk.of("http://h/a");
        Check.due("read of a bad port", desk.read("http://k:x", 0), false);
        Check.due("text after failing", desk.text(0), "http://h/a");
        Check.due("read of a bad host", desk.read("http://a b", 0, 0), false);
        Check.due("text after failing again", desk.text(0), "http://h/a");
        Check.due("another slot", desk.call().length(1, 0), UrlDesk.BAD);
    }

    private static void draftStays() {
        Desk desk = new Desk();
        desk.draft(" HTTP://H ");
        Check.due("read", desk.call().read(0, -1), true);
        Check.due("cut to all", desk.call().cut(10), true);
        Check.due("cut to more", desk.call().cut(11), false);
        desk.call().type('x');
        Check.due("read again", desk.call().read(1, -1), false);
        desk.call().cut(9);
        Check.due("read once more", desk.call().read(1, -1), true);
        Check.due("text", desk.text(1), "http://h/");
    }

    private static void slotAndBaseMayBeTheSame() {
        Desk desk = Desk.of("http://u:p@h:8/a/b?c#d");
        Check.due("read over its base", desk.read("../x/y", 0, 0), true);
        Check.due("text", desk.text(0), "http://u:p@h:8/x/y");
        Check.due("read over it again", desk.read("#z", 0, 0), true);
        Check.due("text", desk.text(0), "http://u:p@h:8/x/y#z");
        Check.due("read over it with an empty draft", desk.read("", 0, 0), true);
        Check.due("text", desk.text(0), "http://u:p@h:8/x/y");
    }

    private static void trimming() {
        alone(" \t\n\r\u0001\u001f q:a\u001f \t", "q:a");
        alone("q\t:\na\r b", "q:a b");
        alone("ht\ttp:/\n/a\r.b/c\td", "http://a.b/cd");
        alone("q:a!", "q:a!");
        alone("q:!a", "q:!a");
        alone(" \t ", null);
        with("q://h/a", "!b!", "q://h/!b!");
        with("q://h/a", " \u0001 b \u0001 ", "q://h/b");
        alone("", null);
        alone("q:\u0001a", "q:%01a");
        alone("q:a\u007f", "q:a%7F");
    }

    private static void schemes() {
        alone("A+-.9z:x", "a+-.9z:x");
        alone("Z:", "z:");
        alone("1a:x", null);
        alone("+a:x", null);
        alone(":x", null);
        alone("a_b:x", null);
        alone("\u00e9:x", null);
        alone("a/b:x", null);
        alone("abc", null);
        alone("q:r:s", "q:r:s");
        alone("@a:", null);
        alone("[a:", null);
        alone("`a:", null);
        alone("{a:", null);
        with("http://h/a/b", "1a:x", "http://h/a/1a:x");
        with("http://h/a/b", "a_b:x", "http://h/a/a_b:x");
    }

    private static void specialSchemes() {
        alone("http:h", "http://h/");
        alone("http:/h", "http://h/");
        alone("http:\\\\/\\h", "http://h/");
        alone("https://///h/a", "https://h/a");
        alone("ws:h\\a\\b", "ws://h/a/b");
        alone("wss://h", "wss://h/");
        alone("ftp://h?a", "ftp://h/?a");
        alone("ftp:", null);
        alone("http:///", null);
        alone("http://?a", null);
        alone("file:h", "file:h");
        alone("httpx:h", "httpx:h");
        alone("htt:h", "htt:h");
        alone("xttp:h", "xttp:h");
        alone("xttps:h", "xttps:h");
        alone("xtp:h", "xtp:h");
        alone("xs:h", "xs:h");
        alone("xss:h", "xss:h");
        alone("wsss:h", "wsss:h");
    }

    private static void otherSchemes() {
        alone("q:", "q:");
        alone("q:?a#b", "q:?a#b");
        alone("q:a/../b", "q:a/../b");
        alone("q:\\\\h", "q:\\\\h");
        alone("q:/", "q:/");
        alone("q:/a/../b", "q:/b");
        alone("q:/a\\b", "q:/a\\b");
        alone("q:/\\a", "q:/\\a");
        alone("q://h", "q://h");
        alone("q://h/", "q://h/");
        alone("q://h?a", "q://h?a");
        alone("q:////x", "q:////x");
        alone("q:/.//x", "q:/.//x");
        alone("q:/a/..//x", "q:/.//x");
        alone("q:/..//", "q:/.//");
        alone("q:/.", "q:/");
        alone("q://h/.//x", "q://h//x");
        alone("q:.//x", "q:.//x");
        alone("q:/x//y", "q:/x//y");
        with("http://h/a", "q:b", "q:b");
        with("q://h/a", "q:b", "q:b");
        with("q://h/a", "q:/b", "q:/b");
    }

    private static void withoutScheme() {
        alone("//h", null);
        alone("/a", null);
        alone("?a", null);
        alone("#a", null);
        with("q://h/a", "//k/b", "q://k/b");
        with("q://h/a", "///b", "q:///b");
        with("http://h/a", "///b", "http://b/");
        with("http://h/a", "\\/b/c", "http://b/c");
        with("http://h/a", "//", null);
        with("q://h/a", "//", "q://");
        with("q://h/a/b", "\\/c", "q://h/a/\\/c");
    }

    private static void opaqueBases() {
        with("q:a?b#c", "#d e", "q:a?b#d%20e");
        with("q:a?b#c", "#", "q:a?b#");
        with("q:a?b#c", "", null);
        with("q:a?b#c", "x#d", null);
        with("q:a?b#c", "?x#d", null);
        with("q:a?b#c", "?#d", null);
        with("q:a?b#c", "/#d", null);
        with("q:a?b#c", "//h", null);
        with("q:a", "http://h/", "http://h/");
        with("q:a", "r:b", "r:b");
        Desk desk = Desk.of("q:a b", "#c");
        Check.due("segments of an opaque path that was taken over", desk.call().segments(1), UrlDesk.NONE);
    }

    private static void relative() {
        String base = "http://u:p@h:8/a/b/c?d#e";
        with(base, "", "http://u:p@h:8/a/b/c?d");
        with(base, "#x", "http://u:p@h:8/a/b/c?d#x");
        with(base, "?x", "http://u:p@h:8/a/b/c?x");
        with(base, "?", "http://u:p@h:8/a/b/c?");
        with(base, "x", "http://u:p@h:8/a/b/x");
        with(base, "/x", "http://u:p@h:8/x");
        with(base, "\\x", "http://u:p@h:8/x");
        with(base, "/", "http://u:p@h:8/");
        with(base, "..", "http://u:p@h:8/a/");
        with(base, "../../../x", "http://u:p@h:8/x");
        with(base, "./x/", "http://u:p@h:8/a/b/x/");
        with(base, "//k", "http://k/");
        with(base, "x?y#z", "http://u:p@h:8/a/b/x?y#z");
        with("q://h", "x", "q://h/x");
        with("q://h", "", "q://h");
        with("q://h", "?a", "q://h?a");
        with("q://h", ".", "q://h/");
        with("q:///a/b", "c", "q:///a/c");
        with("q:/a/b", "c", "q:/a/c");
        with("q:/a/b", "..//c", "q:/.//c");
        with("q:/.//b", "c", "q:/.//c");
        with("q:/.//b", "", "q:/.//b");
        with("q:/.//b", "../c", "q:/c");
    }

    private static void relativeWithSpecialScheme() {
        String base = "http://u:p@h:8/a/b?c";
        with(base, "http:x", "http://u:p@h:8/a/x");
        with(base, "HTTP:", "http://u:p@h:8/a/b?c");
        with(base, "http:?x", "http://u:p@h:8/a/b?x");
        with(base, "http:/x", "http://u:p@h:8/x");
        with(base, "http:\\x", "http://u:p@h:8/x");
        with(base, "http://x", "http://x/");
        with(base, "http:\\\\x", "http://x/");
        with(base, "http:/\\x", "http://x/");
        with(base, "https:x", "https://x/");
        with(base, "ws:x", "ws://x/");
        with("ws://h/a", "http:x", "http://x/");
        with("wss://h/a", "https:x", "https://x/");
        with("ws://h/a", "ws:x", "ws://h/x");
        with("wss://h/a", "wss:x", "wss://h/x");
        with("ftp://h/a", "ftp:x", "ftp://h/x");
        with("https://h/a", "https:x", "https://h/x");
        with("q:a", "http:x", "http://x/");
    }

    private static void queryAndFragment() {
        alone("q:a?b?c#d?e#f", "q:a?b?c#d?e#f");
        alone("q:a#b?c", "q:a#b?c");
        alone("q:a?", "q:a?");
        alone("q:a#", "q:a#");
        alone("q:a?#", "q:a?#");
        alone("http://h?/..#/..", "http://h/?/..#/..");
        alone("http://h#@k", "http://h/#@k");
        alone("http://u?@h", "http://u/?@h");
        alone("http://h/a?'", "http://h/a?%27");
        alone("q://h/a?'", "q://h/a?'");
        with("http://h/a?b", "?'", "http://h/a?%27");
        with("q://h/a?b", "?'", "q://h/a?'");
    }

    private static void credentials() {
        alone("http://u@h", "http://u@h/");
        alone("http://u:@h", "http://u@h/");
        alone("http://:p@h", "http://:p@h/");
        alone("http://:@h", "http://h/");
        alone("http://@h", "http://h/");
        alone("http://a:b:c@h", "http://a:b%3Ac@h/");
        alone("http://a@b@h", "http://a%40b@h/");
        alone("http://a:b@c:d@h", "http://a:b%40c%3Ad@h/");
        alone("q://u:p@h", "q://u:p@h");
        alone("http://u\\@h", "http://u/@h");
        alone("q://u\\@h", "q://u%5C@h");
        alone("http://h/@k", "http://h/@k");
        alone("http://[u:p@h", "http://%5Bu:p@h/");
    }

    private static void ports() {
        alone("http://h:8", "http://h:8/");
        alone("http://h:", "http://h/");
        alone("http://h:/a", "http://h/a");
        alone("http://h:0", "http://h:0/");
        alone("http://h:00008", "http://h:8/");
        alone("http://h:" + "0".repeat(80) + "65535", "http://h:65535/");
        alone("http://h:65536", null);
        alone("http://h:655350", null);
        alone("http://h:800", "http://h:800/");
        alone("http://h:99999999999999999999", null);
        alone("http://h:4294967304", null);
        alone("http://h:8x", null);
        alone("http://h:x", null);
        alone("http://h:+8", null);
        alone("http://h:8:9", null);
        alone("http://h:-", null);
        alone("http://h:8 /", null);
        alone("http://h:80", "http://h/");
        alone("http://h:080", "http://h/");
        alone("ws://h:80", "ws://h/");
        alone("https://h:443", "https://h/");
        alone("wss://h:443", "wss://h/");
        alone("ftp://h:21", "ftp://h/");
        alone("ftp://h:80", "ftp://h:80/");
        alone("https://h:80", "https://h:80/");
        alone("http://h:443", "http://h:443/");
        alone("q://h:80", "q://h:80");
        alone("q://h:", "q://h");
        alone("q://h:x", null);
        alone("http://[::1]:8", "http://[::1]:8/");
        alone("http://[::1]:", "http://[::1]/");
        alone("http://[::1:8", null);
        alone("q://]:8", null);
    }

    private static void emptyHosts() {
        alone("q://", "q://");
        alone("q:///a", "q:///a");
        alone("q://?a", "q://?a");
        alone("q://:8", null);
        alone("q://:", null);
        alone("q://@", null);
        alone("q://u@", null);
        alone("q://u@/a", null);
        alone("q://@:8", null);
        alone("http://:8", null);
        alone("http://u@", null);
        alone("http://u@/a", null);
    }
}
