/** Promises 4 and 10: the list of a text, and how many segments it has. */
public final class PathTest {
    public static void main(String[] args) {
        dots();
        doubleDots();
        otherPieces();
        slashes();
        goingOnFromABase();
        Check.end();
    }

    private static void list(String path, String want, int segments) {
        for (String start : new String[] {"http://h", "q://h", "q:/x/.."}) {
            Desk desk = Desk.of(start + path);
            Check.due("path of " + start + path, desk.part(0, Desk.PATH), want);
            Check.due("segments of " + start + path, desk.call().segments(0), segments);
        }
    }

    private static void dots() {
        list("/.", "/", 1);
        list("/./", "/", 1);
        list("/a/.", "/a/", 2);
        list("/./a", "/a", 1);
        list("/a/./b", "/a/b", 2);
        list("/%2e", "/", 1);
        list("/%2E/a", "/a", 1);
        list("/a/%2e", "/a/", 2);
    }

    private static void doubleDots() {
        list("/..", "/", 1);
        list("/../..", "/", 1);
        list("/../a", "/a", 1);
        list("/a/..", "/", 1);
        list("/a/../", "/", 1);
        list("/a/b/..", "/a/", 2);
        list("/a/b/../c", "/a/c", 2);
        list("/a//../b", "/a/b", 2);
        list("/a/.%2e/b", "/b", 1);
        list("/a/%2e./b", "/b", 1);
        list("/a/%2E%2e/b", "/b", 1);
        list("/a/%2e%2E", "/", 1);
        list("/a/b/c/./../../g", "/a/g", 2);
        list("/ab/..", "/", 1);
        list("/a/bc/../d", "/a/d", 2);
    }

    private static void otherPieces() {
        list("/...", "/...", 1);
        list("/....", "/....", 1);
        list("/%2e%2e%2e", "/%2e%2e%2e", 1);
        list("/.a", "/.a", 1);
        list("/a.", "/a.", 1);
        list("/..a", "/..a", 1);
        list("/a..", "/a..", 1);
        list("/%2e%2", "/%2e%2", 1);
        list("/%2", "/%2", 1);
        list("/%2f", "/%2f", 1);
        list("/%2d", "/%2d", 1);
        list("/a/%3e", "/a/%3e", 2);
        list("/%e2", "/%e2", 1);
        list("/. ./a", "/.%20./a", 2);
    }

    private static void slashes() {
        list("/", "/", 1);
        list("/a//b/", "/a//b/", 4);
        Check.due("no slash in q", Desk.of("q://h").part(0, Desk.PATH), "");
        Check.due("segments without slash in q", Desk.of("q://h").call().segments(0), 0);
        Check.due("no slash in http", Desk.of("http://h").part(0, Desk.PATH), "/");
        Check.due("segments without slash in http", Desk.of("http://h").call().segments(0), 1);
        Check.due("back slashes in http", Desk.of("http://h\\a\\..\\b\\").part(0, Desk.PATH), "/b/");
        Check.due("back slashes in q", Desk.of("q://h/a\\..\\b").part(0, Desk.PATH), "/a\\..\\b");
        Check.due("segments with back slashes in q", Desk.of("q://h/a\\..\\b").call().segments(0), 1);
        Check.due("an opaque path", Desk.of("q:a/b/..").part(0, Desk.PATH), "a/b/..");
        Check.due("segments of an opaque path", Desk.of("q:a/b").call().segments(0), UrlDesk.NONE);
        Check.due("two empty segments, no host", Desk.of("q:/.//").part(0, Desk.PATH), "//");
        Check.due("their number", Desk.of("q:/.//").call().segments(0), 2);
        Check.due("their text", Desk.of("q:/.//").text(0), "q:/.//");
    }

    private static void goingOnFromABase() {
        Desk desk = Desk.of("q://h/a/b/c", "..");
        Check.due("one up", desk.part(1, Desk.PATH), "/a/");
        desk.read("../../../d", 1, 0);
        Check.due("far up", desk.part(1, Desk.PATH), "/d");
        desk.read(".", 1, 0);
        Check.due("here", desk.part(1, Desk.PATH), "/a/b/");
        desk.read("d/e", 1, 0);
        Check.due("down", desk.part(1, Desk.PATH), "/a/b/d/e");
        Check.due("segments", desk.call().segments(1), 4);
        desk.read("/d", 1, 0);
        Check.due("from the root", desk.part(1, Desk.PATH), "/d");
        Check.due("from no segments", Desk.of("q://h", "a/b").part(1, Desk.PATH), "/a/b");
        Check.due("from one empty segment", Desk.of("http://h", "a").part(1, Desk.PATH), "/a");
    }
}
