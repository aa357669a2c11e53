/** Promise 5: set. */
public final class SetTest {
    public static void main(String[] args) {
        credentials();
        credentialsNeedAHost();
        ports();
        wrongPorts();
        queries();
        fragments();
        wrongSlotsAndParts();
        otherPartsStay();
        otherSlotsDoNotMatter();
        Check.end();
    }

    /** The text after a part was set, or null when the call answered false, which must change nothing. */
    private static String after(String text, String draft, int part) {
        Desk desk = Desk.of(text);
        String before = desk.text(0);
        if (desk.set(draft, 0, part)) {
            return desk.text(0);
        }
        Check.due("text after a refused set", desk.text(0), before);
        return null;
    }

    private static void set(String text, String draft, int part, String want) {
        Check.due("set " + part + " of " + text + " to " + draft, after(text, draft, part), want);
    }

    private static void credentials() {
        set("http://h", "a", Desk.USERNAME, "http://a@h/");
        set("http://h", "a", Desk.PASSWORD, "http://:a@h/");
        set("http://u:p@h", "a", Desk.USERNAME, "http://a:p@h/");
        set("http://u:p@h", "a", Desk.PASSWORD, "http://u:a@h/");
        set("http://u:p@h", "", Desk.USERNAME, "http://:p@h/");
        set("http://u:p@h", "", Desk.PASSWORD, "http://u@h/");
        set("http://u@h", "", Desk.USERNAME, "http://h/");
        set("http://:p@h", "", Desk.PASSWORD, "http://h/");
        set("q://h:8/a", "a:b@c\\ %", Desk.USERNAME, "q://a%3Ab%40c%5C%20%@h:8/a");
        set("q://h", " \t\n\r", Desk.PASSWORD, "q://:%20%09%0A%0D@h");
    }

    private static void credentialsNeedAHost() {
        for (String text : new String[] {"q:a", "q:/a", "q://", "q:///a"}) {
            set(text, "a", Desk.USERNAME, null);
            set(text, "a", Desk.PASSWORD, null);
            set(text, "8", Desk.PORT, null);
            set(text, "", Desk.USERNAME, null);
            set(text, "", Desk.PASSWORD, null);
            set(text, "", Desk.PORT, null);
        }
    }

    private static void ports() {
        set("http://h", "8", Desk.PORT, "http://h:8/");
        set("http://h:9", "8", Desk.PORT, "http://h:8/");
        set("http://h:9", "", Desk.PORT, "http://h/");
        set("http://h:9", "80", Desk.PORT, "http://h/");
        set("http://h:9", "0080", Desk.PORT, "http://h/");
        set("https://h:9", "443x", Desk.PORT, "https://h/");
        set("https://h:9", "80", Desk.PORT, "https://h:80/");
        set("q://h", "80", Desk.PORT, "q://h:80");
        set("q://h", "0", Desk.PORT, "q://h:0");
        set("q://h", "65535", Desk.PORT, "q://h:65535");
        set("q://h", "8x9", Desk.PORT, "q://h:8");
        set("q://h", "8 ", Desk.PORT, "q://h:8");
        set("q://h", "1\t2", Desk.PORT, "q://h:1");
        set("q://h", "12/99999", Desk.PORT, "q://h:12");
        set("q://h", "0".repeat(90) + "65535", Desk.PORT, "q://h:65535");
    }

    private static void wrongPorts() {
        set("q://h:9", "x", Desk.PORT, null);
        set("q://h:9", "x8", Desk.PORT, null);
        set("q://h:9", " 8", Desk.PORT, null);
        set("q://h:9", "\t8", Desk.PORT, null);
        set("q://h:9", ":8", Desk.PORT, null);
        set("q://h:9", "-8", Desk.PORT, null);
        set("q://h:9", "65536", Desk.PORT, null);
        set("q://h:9", "65536x", Desk.PORT, null);
        set("q://h:9", "4294967304", Desk.PORT, null);
        set("q://h:9", "9".repeat(100), Desk.PORT, null);
    }

    private static void queries() {
        set("q:a", "b", Desk.QUERY, "q:a?b");
        set("q:a?b#c", "d", Desk.QUERY, "q:a?d#c");
        set("q:a?b#c", "?d", Desk.QUERY, "q:a?d#c");
        set("q:a?b#c", "??d", Desk.QUERY, "q:a??d#c");
        set("q:a?b#c", "?", Desk.QUERY, "q:a?#c");
        set("q:a?b#c", "", Desk.QUERY, "q:a#c");
        set("q:a?b#c", "\t\n\r", Desk.QUERY, "q:a#c");
        set("q:a?b#c", "\t?\nd\re", Desk.QUERY, "q:a?de#c");
        set("q:a?b#c", "\t?\n", Desk.QUERY, "q:a?#c");
        set("q:a?b#c", "#d", Desk.QUERY, "q:a?%23d#c");
        set("q:a?b#c", " d ", Desk.QUERY, "q:a?%20d%20#c");
        set("q:a", "'", Desk.QUERY, "q:a?'");
        set("ftp://h", "'", Desk.QUERY, "ftp://h/?%27");
    }

    private static void fragments() {
        set("q:a", "b", Desk.FRAGMENT, "q:a#b");
        set("q:a?b#c", "#d", Desk.FRAGMENT, "q:a?b#d");
        set("q:a?b#c", "##d", Desk.FRAGMENT, "q:a?b##d");
        set("q:a?b#c", "?d", Desk.FRAGMENT, "q:a?b#?d");
        set("q:a?b#c", "#", Desk.FRAGMENT, "q:a?b#");
        set("q:a?b#c", "", Desk.FRAGMENT, "q:a?b");
        set("q:a?b#c", "\r\n\t", Desk.FRAGMENT, "q:a?b");
        set("q:a?b#c", "\r#\nd\te", Desk.FRAGMENT, "q:a?b#de");
        set("http://h", "'`", Desk.FRAGMENT, "http://h/#'%60");
    }

    private static void wrongSlotsAndParts() {
        Desk desk = Desk.of("http://h");
        desk.draft("8");
        for (int part : new int[] {-1, 0, 1, 4, 6, 9, Integer.MIN_VALUE, Integer.MAX_VALUE}) {
            Check.due("set part " + part, desk.call().set(0, part), false);
        }
        for (int slot : new int[] {-1, 1, 2, 3, 4, Integer.MIN_VALUE, Integer.MAX_VALUE}) {
            Check.due("set slot " + slot, desk.call().set(slot, Desk.PORT), false);
            Check.due("length of slot " + slot, desk.call().length(slot, 0), UrlDesk.BAD);
        }
        Check.due("text", desk.text(0), "http://h/");
    }

    private static void otherSlotsDoNotMatter() {
        Desk desk = Desk.of("http://h:8/a");
        desk.read("q:a", 1);
        desk.set("'", 0, Desk.QUERY);
        Check.due("after an opaque one was read", desk.text(0), "http://h:8/a?%27");
        Check.due("its port", desk.call().port(0), 8);
        Check.due("its segments", desk.call().segments(0), 1);
        desk.set("'", 1, Desk.QUERY);
        Check.due("after a special one was set", desk.text(1), "q:a?'");
        Check.due("no port", desk.call().port(1), UrlDesk.NONE);
        Check.due("no segments", desk.call().segments(1), UrlDesk.NONE);
        desk.read("q://h:80", 2);
        desk.set("80", 0, Desk.PORT);
        Check.due("the usual port", desk.text(0), "http://h/a?%27");
        desk.set("443", 2, Desk.PORT);
        Check.due("not a usual port", desk.text(2), "q://h:443");
        desk.set("u", 2, Desk.USERNAME);
        Check.due("with its port", desk.text(2), "q://u@h:443");
        desk.set("v", 0, Desk.USERNAME);
        Check.due("without a port", desk.text(0), "http://v@h/a?%27");
    }

    private static void otherPartsStay() {
        Desk desk = Desk.of("q:/.//a");
        desk.set("b", 0, Desk.QUERY);
        Check.due("a path that needs a dot", desk.text(0), "q:/.//a?b");
        Check.due("its path", desk.part(0, Desk.PATH), "//a");
        Check.due("its segments", desk.call().segments(0), 2);
        desk.read("q:a b", 1);
        desk.set("c", 1, Desk.FRAGMENT);
        Check.due("an opaque path", desk.text(1), "q:a b#c");
        Check.due("is still opaque", desk.call().segments(1), UrlDesk.NONE);
        desk.read("http://u:p@[::1]:8/a?b#c", 2);
        desk.set("d", 2, Desk.USERNAME);
        Check.due("all others", desk.text(2), "http://d:p@[::1]:8/a?b#c");
        Check.due("the port", desk.call().port(2), 8);
        Check.due("the first slot", desk.text(0), "q:/.//a?b");
        desk.read("http:e", 3, 2);
        Check.due("still a special scheme", desk.text(3), "http://d:p@[::1]:8/e");
    }
}
