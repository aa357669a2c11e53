/** Promises 6 to 11: copy, length, charAt, port, segments and same. */
public final class SlotsTest {
    private static final int[] NO_SLOTS = {-1, 4, Integer.MIN_VALUE, Integer.MAX_VALUE};

    public static void main(String[] args) {
        copies();
        copiesAreApart();
        wrongCopies();
        lengths();
        nones();
        nothingIsLeftOver();
        characters();
        ports();
        segments();
        same();
        sameButTheFragment();
        Check.end();
    }

    private static void copies() {
        Desk desk = Desk.of("http://u:p@h:8/a/b?c=d#e");
        for (int slot = 1; slot < 4; slot++) {
            Check.due("copy", desk.call().copy(0, slot), true);
        }
        String[] want = {"http://u:p@h:8/a/b?c=d#e", "http", "u", "p", "h", "8", "/a/b", "c=d", "e"};
        for (int part = 0; part < 9; part++) {
            Check.due("part " + part + " of a copy", desk.part(2, part), want[part]);
        }
        Check.due("port of a copy", desk.call().port(3), 8);
        Check.due("segments of a copy", desk.call().segments(3), 2);
        Check.due("pairs of a copy", desk.call().pairs(3), 1);
        Check.due("copy onto itself", desk.call().copy(1, 1), true);
        Check.due("text after that", desk.text(1), want[0]);
        desk.read("q:x", 2);
        Check.due("copy over a URL", desk.call().copy(2, 3), true);
        Check.due("its text", desk.text(3), "q:x");
        Check.due("its host", desk.call().length(3, Desk.HOST), UrlDesk.NONE);
        Check.due("its port", desk.call().port(3), UrlDesk.NONE);
        Check.due("its segments", desk.call().segments(3), UrlDesk.NONE);
    }

    private static void copiesAreApart() {
        Desk desk = Desk.of("http://h/a");
        desk.call().copy(0, 1);
        desk.set("b", 0, Desk.QUERY);
        Check.due("the changed one", desk.text(0), "http://h/a?b");
        Check.due("its copy", desk.text(1), "http://h/a");
        desk.set("c", 1, Desk.USERNAME);
        desk.read("q:x", 2);
        Check.due("the first", desk.text(0), "http://h/a?b");
        Check.due("the second", desk.text(1), "http://c@h/a");
        desk.read("ws:c", 3, 1);
        desk.call().copy(1, 2);
        desk.read("http:c", 3, 2);
        Check.due("a copy as base", desk.text(3), "http://c@h/c");
    }

    private static void wrongCopies() {
        Desk desk = Desk.of("q:a");
        for (int slot : NO_SLOTS) {
            Check.due("copy to " + slot, desk.call().copy(0, slot), false);
            Check.due("copy from " + slot, desk.call().copy(slot, 0), false);
        }
        Check.due("copy of none", desk.call().copy(1, 0), false);
        Check.due("copy of none onto itself", desk.call().copy(1, 1), false);
        Check.due("text", desk.text(0), "q:a");
        Check.due("none", desk.call().length(1, 0), UrlDesk.BAD);
    }

    private static void lengths() {
        Desk desk = Desk.of("https://User:pw@Ex.org:8080/a/./b?q#f");
        int[] want = {35, 5, 4, 2, 6, 4, 4, 1, 1};
        for (int part = 0; part < 9; part++) {
            Check.due("length of part " + part, desk.call().length(0, part), want[part]);
        }
        for (int part : new int[] {-1, 9, Integer.MIN_VALUE, Integer.MAX_VALUE}) {
            Check.due("length of part " + part, desk.call().length(0, part), UrlDesk.BAD);
            Check.due("charAt of part " + part, desk.call().charAt(0, part, 0), UrlDesk.NONE);
            Check.due("length of part " + part + " of none", desk.call().length(1, part), UrlDesk.BAD);
        }
        for (int slot : NO_SLOTS) {
            Check.due("length of slot " + slot, desk.call().length(slot, 0), UrlDesk.BAD);
            Check.due("charAt of slot " + slot, desk.call().charAt(slot, 0, 0), UrlDesk.NONE);
        }
        Check.due("length of none", desk.call().length(1, Desk.HOST), UrlDesk.BAD);
    }

    private static void nones() {
        Desk desk = Desk.of("q:");
        int[] want = {2, 1, 0, 0, UrlDesk.NONE, UrlDesk.NONE, 0, UrlDesk.NONE, UrlDesk.NONE};
        for (int part = 0; part < 9; part++) {
            Check.due("length of part " + part + " of q:", desk.call().length(0, part), want[part]);
        }
        desk.read("q://?#", 0);
        int[] empty = {6, 1, 0, 0, 0, UrlDesk.NONE, 0, 0, 0};
        for (int part = 0; part < 9; part++) {
            Check.due("length of part " + part + " of q://?#", desk.call().length(0, part), empty[part]);
        }
        desk.read("http://h:80", 0);
        Check.due("length of the usual port", desk.call().length(0, Desk.PORT), UrlDesk.NONE);
        desk.read("http://:p@h", 0);
        Check.due("length of no username", desk.call().length(0, Desk.USERNAME), 0);
        Check.due("length of its password", desk.call().length(0, Desk.PASSWORD), 1);
    }

    private static void nothingIsLeftOver() {
        Desk desk = new Desk();
        int[] want = {2, 1, 0, 0, UrlDesk.NONE, UrlDesk.NONE, 0, UrlDesk.NONE, UrlDesk.NONE};
        for (int slot = 0; slot < 4; slot++) {
            desk.read("http://u:p@h:8/a?b#c", slot);
        }
        for (int n = 0; n < 2; n++) {
            desk.read("ws://us:pw@ho:88/a/b?c#d", 0);
            desk.read("q:", 0);
            for (int part = 0; part < 9; part++) {
                Check.due("length of part " + part + " after a longer URL", desk.call().length(0, part), want[part]);
            }
        }
    }

    private static void characters() {
        Desk desk = Desk.of("http://u:p@h:65/a?b#c");
        Check.due("first of the text", desk.call().charAt(0, Desk.TEXT, 0), (int) 'h');
        Check.due("last of the text", desk.call().charAt(0, Desk.TEXT, 20), (int) 'c');
        Check.due("behind the text", desk.call().charAt(0, Desk.TEXT, 21), UrlDesk.NONE);
        Check.due("last of the scheme", desk.call().charAt(0, Desk.SCHEME, 3), (int) 'p');
        Check.due("behind the scheme", desk.call().charAt(0, Desk.SCHEME, 4), UrlDesk.NONE);
        Check.due("the port's first", desk.call().charAt(0, Desk.PORT, 0), (int) '6');
        Check.due("the port's second", desk.call().charAt(0, Desk.PORT, 1), (int) '5');
        Check.due("behind the port", desk.call().charAt(0, Desk.PORT, 2), UrlDesk.NONE);
        for (int part = 0; part < 9; part++) {
            Check.due("before part " + part, desk.call().charAt(0, part, -1), UrlDesk.NONE);
            Check.due("far before part " + part, desk.call().charAt(0, part, Integer.MIN_VALUE), UrlDesk.NONE);
            Check.due("far behind part " + part, desk.call().charAt(0, part, Integer.MAX_VALUE), UrlDesk.NONE);
        }
        desk.read("q:/.//a", 1);
        Check.due("the text's dot", desk.call().charAt(1, Desk.TEXT, 3), (int) '.');
        Check.due("the path has none", desk.part(1, Desk.PATH), "//a");
        Check.due("of a slot without URL", desk.call().charAt(2, Desk.TEXT, 0), UrlDesk.NONE);
    }

    private static void ports() {
        Check.due("a port", Desk.of("http://h:8").call().port(0), 8);
        Check.due("port 0", Desk.of("http://h:0").call().port(0), 0);
        Check.due("the highest", Desk.of("q://h:65535").call().port(0), 65535);
        Check.due("ten thousand", Desk.of("q://h:10000").part(0, Desk.PORT), "10000");
        Check.due("twelve hundred", Desk.of("q://h:1200").part(0, Desk.PORT), "1200");
        Check.due("nine", Desk.of("q://h:9").part(0, Desk.PORT), "9");
        Check.due("the usual one", Desk.of("http://h:80").call().port(0), UrlDesk.NONE);
        Check.due("no port", Desk.of("q:a").call().port(0), UrlDesk.NONE);
        Check.due("the base's", Desk.of("q://h:7/", "a").call().port(1), 7);
        Check.due("not the base's", Desk.of("q://h:7/", "//k").call().port(1), UrlDesk.NONE);
        Desk desk = Desk.of("q://h:7");
        for (int slot : NO_SLOTS) {
            Check.due("port of slot " + slot, desk.call().port(slot), UrlDesk.BAD);
            Check.due("segments of slot " + slot, desk.call().segments(slot), UrlDesk.BAD);
        }
        Check.due("port of none", desk.call().port(1), UrlDesk.BAD);
    }

    private static void segments() {
        Check.due("three", Desk.of("http://h/a/b/c").call().segments(0), 3);
        Check.due("with an empty one", Desk.of("http://h/a/b/").call().segments(0), 3);
        Check.due("one empty one", Desk.of("http://h").call().segments(0), 1);
        Check.due("none at all", Desk.of("q://h").call().segments(0), 0);
        Check.due("slashes elsewhere", Desk.of("q://h/a?b/c#d/e").call().segments(0), 1);
        Check.due("opaque", Desk.of("q:a/b").call().segments(0), UrlDesk.NONE);
        Check.due("opaque and empty", Desk.of("q:").call().segments(0), UrlDesk.NONE);
        Check.due("of none", Desk.of("q:").call().segments(1), UrlDesk.BAD);
    }

    private static void same() {
        Desk desk = Desk.of("HTTP://H:80/a/../b");
        desk.read("http://h/b", 1);
        desk.read("http://h/c", 2);
        Check.due("two ways to write one", desk.call().same(0, 1, false), true);
        Check.due("the other way round", desk.call().same(1, 0, true), true);
        Check.due("with itself", desk.call().same(2, 2, false), true);
        Check.due("another path", desk.call().same(0, 2, false), false);
        Check.due("another path, bare", desk.call().same(0, 2, true), false);
        Check.due("with none", desk.call().same(0, 3, false), false);
        Check.due("none with one", desk.call().same(3, 0, true), false);
        Check.due("none with none", desk.call().same(3, 3, false), false);
        for (int slot : NO_SLOTS) {
            Check.due("with slot " + slot, desk.call().same(0, slot, false), false);
            Check.due("of slot " + slot, desk.call().same(slot, 0, false), false);
        }
        desk.read("httq://h/b", 2);
        Check.due("another scheme", desk.call().same(0, 2, false), false);
        desk.read("ittp://h/b", 2);
        Check.due("another first character", desk.call().same(0, 2, true), false);
        desk.read("http://h/b/", 2);
        Check.due("a longer one", desk.call().same(0, 2, false), false);
        Check.due("a shorter one", desk.call().same(2, 0, true), false);
    }

    private static void sameButTheFragment() {
        Desk desk = Desk.of("q:a?b#c");
        desk.read("q:a?b#d", 1);
        desk.read("q:a?b", 2);
        desk.read("q:a?b#", 3);
        Check.due("two fragments", desk.call().same(0, 1, false), false);
        Check.due("two fragments, bare", desk.call().same(0, 1, true), true);
        Check.due("one fragment", desk.call().same(0, 2, false), false);
        Check.due("one fragment, bare", desk.call().same(0, 2, true), true);
        Check.due("an empty fragment", desk.call().same(2, 3, false), false);
        Check.due("an empty fragment, bare", desk.call().same(2, 3, true), true);
        desk.read("q:a#c", 1);
        Check.due("two queries, bare", desk.call().same(0, 1, true), false);
        desk.read("q:a?#c", 2);
        Check.due("an empty query, bare", desk.call().same(1, 2, true), false);
    }
}
