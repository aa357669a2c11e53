/** The boundary cases of a text's 600 characters: 600 are taken, 601 are refused and change nothing. */
public final class RoomEdgesTest {
    private static final String WIDE = Edge.WIDE;
    private static final int MOST = 600;
    // A draft of this many wide characters and one or two more.
    private static final int MANY = 98;

    public static void main(String[] args) {
        Edge.test("A URL whose text would have more than 600 characters FAILS.", RoomEdgesTest::reading);
        Edge.test("A URL whose text would have more than 600 characters FAILS. (What is counted)", RoomEdgesTest::counted);
        Edge.test("A URL whose text would have more than 600 characters FAILS. (What it would not have in the end)",
                RoomEdgesTest::notCounted);
        Edge.test("or when the text would have more than 600 characters (part 2)", RoomEdgesTest::usernames);
        Edge.test("or when the text would have more than 600 characters (part 3)", RoomEdgesTest::passwords);
        Edge.test("or when the text would have more than 600 characters (part 5)", RoomEdgesTest::ports);
        Edge.test("or when the text would have more than 600 characters (part 7)", RoomEdgesTest::queries);
        Edge.test("or when the text would have more than 600 characters (part 8)", RoomEdgesTest::fragments);
        Edge.test("Character i (0 the first) of a part (of 600 characters)", RoomEdgesTest::longestText);
        Check.end();
    }

    /** A run whose slot 1 has a URL of so many characters, filled up by a part that is not looked at. */
    private static Run filled(String start, int size, int part) {
        Run run = Run.busy().draft(start + WIDE.repeat(88)).takes(Call.read(1, -1));
        int missing = size - run.answer(Call.length(1, 0)) - 1;
        run.draft("b".repeat(missing)).takes(Call.set(1, part));
        Check.due("the size of what was filled up", run.answer(Call.length(1, 0)), size);
        return run;
    }

    private static void sets(Run run, String draft, int part, int size) {
        Run set = run.draft(draft).takes(Call.set(1, part));
        Check.due("the size with part " + part + " " + Edge.told(draft), set.answer(Call.length(1, 0)), size);
    }

    private static void refuses(Run run, String draft, int part) {
        run.draft(draft).refuses(Call.set(1, part));
    }

    /** Reads with a base, whose size with the draft is at the limit or above it. */
    private static void reads(String base, String draft, int size) {
        Run run = Run.busy().read(base, 0, -1);
        Check.due("the base is there", run.text(0) != null, true);
        run.draft(draft);
        if (size > MOST) {
            run.refuses(Call.read(1, 0)).refuses(Call.read(3, 0)).refuses(Call.read(0, 0));
        } else {
            run.takes(Call.read(1, 0)).takes(Call.read(3, 0)).takes(Call.read(0, 0));
            for (int slot : new int[] {0, 1, 3}) {
                Check.due("the size in slot " + slot, run.answer(Call.length(slot, 0)), size);
            }
        }
    }

    private static void reading() {
        Run alone = Run.busy().draft("q:" + WIDE.repeat(98)).takes(Call.read(1, -1));
        Check.due("the longest that a draft alone makes", alone.answer(Call.length(1, 0)), 590);
        String opaque = "q:" + WIDE.repeat(98);
        reads(opaque, "#123456789", 600);
        reads(opaque, "#1234567890", 601);
        reads(opaque, "#" + WIDE + "123", 600);
        reads(opaque, "#" + WIDE + "1234", 601);
        reads(opaque, "#" + WIDE.repeat(99), 590 + 1 + 594);
        reads("q://h/aaa/z", WIDE.repeat(MANY) + "12", 600);
        reads("q://h/aaaa/z", WIDE.repeat(MANY) + "12", 601);
        reads("http://h/a/z", WIDE.repeat(MANY) + "1", 600);
        reads("http://h/a/z", WIDE.repeat(MANY) + "12", 601);
    }

    private static void counted() {
        // The /. before the path.
        reads("q:/.//aaa/z", WIDE.repeat(MANY) + "12", 600);
        reads("q:/.//aaaa/z", WIDE.repeat(MANY) + "12", 601);
        // What the base gives: credentials, host and port, then the path, then the query.
        reads("q://u:p@h:8/z", "/" + WIDE.repeat(MANY), 600);
        reads("q://u:p@h:8/z", "/" + WIDE.repeat(MANY) + "1", 601);
        reads("q://h/aaaa", "?" + WIDE.repeat(MANY) + "1", 600);
        reads("q://h/aaaaa", "?" + WIDE.repeat(MANY) + "1", 601);
        reads("q://h?aaaa", "#" + WIDE.repeat(MANY) + "1", 600);
        reads("q://h?aaaaa", "#" + WIDE.repeat(MANY) + "1", 601);
        // An empty query and an empty fragment have their marks.
        Run full = filled("q://h/", MOST, Desk.QUERY);
        full.draft("#").refuses(Call.read(1, 1)).refuses(Call.read(3, 1));
        full.draft("").takes(Call.read(3, 1)).takes(Call.read(1, 1));
        Check.due("the size without them", full.answer(Call.length(1, 0)), MOST);
        Run almost = filled("q://h/", MOST - 1, Desk.QUERY).draft("#").takes(Call.read(3, 1));
        Check.due("the size with an empty fragment", almost.answer(Call.length(3, 0)), MOST);
        almost.draft("#a").refuses(Call.read(3, 1)).refuses(Call.read(1, 1));
    }

    private static void notCounted() {
        // The base's fragment.
        Run full = filled("q://h/", MOST, Desk.FRAGMENT).draft("#a").takes(Call.read(3, 1));
        Check.due("with another fragment", full.answer(Call.length(3, 0)), 6 + 6 * 88 + 2);
        // The base's query, where the text has one.
        Run query = filled("q://h/", MOST, Desk.QUERY).draft("?a").takes(Call.read(3, 1));
        Check.due("with another query", query.answer(Call.length(3, 0)), 6 + 6 * 88 + 2);
        // The base's last segment.
        Run last = filled("q://h/", MOST, Desk.QUERY).draft("a").takes(Call.read(3, 1));
        Check.due("with another segment", last.text(3), "q://h/a");
        // What double dots take away again.
        Run away = Run.busy().read("q:/" + WIDE.repeat(90) + "/z", 0, -1);
        away.draft(WIDE.repeat(80) + "/../../a").takes(Call.read(1, 0));
        Check.due("what double dots take away", away.text(1), "q:/a");
        Run back = Run.busy().read("q:/" + WIDE.repeat(90) + "/z", 0, -1);
        back.draft(WIDE.repeat(80) + "/../a").takes(Call.read(1, 0));
        Check.due("what one double dot takes away", back.answer(Call.length(1, 0)), 3 + 540 + 2);
    }

    private static void usernames() {
        sets(filled("q://h/", 598, Desk.QUERY), "a", Desk.USERNAME, MOST);
        refuses(filled("q://h/", 599, Desk.QUERY), "a", Desk.USERNAME);
        refuses(filled("q://h/", 598, Desk.QUERY), "ab", Desk.USERNAME);
        sets(filled("q://:p@h/", 599, Desk.QUERY), "a", Desk.USERNAME, MOST);
        refuses(filled("q://:p@h/", MOST, Desk.QUERY), "a", Desk.USERNAME);
        sets(filled("q://h/", 593, Desk.QUERY), WIDE, Desk.USERNAME, MOST);
        refuses(filled("q://h/", 594, Desk.QUERY), WIDE, Desk.USERNAME);
        sets(filled("q://h/", MOST, Desk.QUERY), "", Desk.USERNAME, MOST);
        sets(filled("q://u@h/", MOST, Desk.QUERY), "v", Desk.USERNAME, MOST);
        refuses(filled("q://u@h/", MOST, Desk.QUERY), "vw", Desk.USERNAME);
        sets(filled("q://u@h/", MOST, Desk.QUERY), "", Desk.USERNAME, 598);
    }

    private static void passwords() {
        sets(filled("q://h/", 597, Desk.QUERY), "a", Desk.PASSWORD, MOST);
        refuses(filled("q://h/", 598, Desk.QUERY), "a", Desk.PASSWORD);
        sets(filled("q://u@h/", 598, Desk.QUERY), "a", Desk.PASSWORD, MOST);
        refuses(filled("q://u@h/", 599, Desk.QUERY), "a", Desk.PASSWORD);
        sets(filled("q://u:p@h/", MOST, Desk.QUERY), "a", Desk.PASSWORD, MOST);
        refuses(filled("q://u:p@h/", MOST, Desk.QUERY), "ab", Desk.PASSWORD);
        sets(filled("q://u:p@h/", MOST, Desk.QUERY), "", Desk.PASSWORD, 598);
        sets(filled("q://h/", 595, Desk.QUERY), "/", Desk.PASSWORD, MOST);
        refuses(filled("q://h/", 596, Desk.QUERY), "/", Desk.PASSWORD);
    }

    private static void ports() {
        sets(filled("q://h/", 598, Desk.QUERY), "8", Desk.PORT, MOST);
        refuses(filled("q://h/", 599, Desk.QUERY), "8", Desk.PORT);
        refuses(filled("q://h/", 598, Desk.QUERY), "88", Desk.PORT);
        sets(filled("q://h/", 598, Desk.QUERY), "0000000008", Desk.PORT, MOST);
        sets(filled("q://h/", 594, Desk.QUERY), "65535", Desk.PORT, MOST);
        refuses(filled("q://h/", 595, Desk.QUERY), "65535", Desk.PORT);
        sets(filled("q://h:8/", MOST, Desk.QUERY), "9", Desk.PORT, MOST);
        refuses(filled("q://h:8/", MOST, Desk.QUERY), "10", Desk.PORT);
        sets(filled("q://h:8/", MOST, Desk.QUERY), "", Desk.PORT, 598);
        sets(filled("http://h/", MOST, Desk.QUERY), "80", Desk.PORT, MOST);
        refuses(filled("http://h/", MOST, Desk.QUERY), "8", Desk.PORT);
    }

    private static void queries() {
        sets(filled("q://h/", 598, Desk.FRAGMENT), "a", Desk.QUERY, MOST);
        refuses(filled("q://h/", 599, Desk.FRAGMENT), "a", Desk.QUERY);
        sets(filled("q://h/", 598, Desk.FRAGMENT), "?a", Desk.QUERY, MOST);
        sets(filled("q://h/", 598, Desk.FRAGMENT), "\t\n\ra", Desk.QUERY, MOST);
        refuses(filled("q://h/", 598, Desk.FRAGMENT), "ab", Desk.QUERY);
        sets(filled("q://h/", 599, Desk.FRAGMENT), "?", Desk.QUERY, MOST);
        refuses(filled("q://h/", MOST, Desk.FRAGMENT), "?", Desk.QUERY);
        sets(filled("q://h/", MOST, Desk.FRAGMENT), "", Desk.QUERY, MOST);
        sets(filled("q://h/", 598, Desk.FRAGMENT), "'", Desk.QUERY, MOST);
        sets(filled("ws://h/", 596, Desk.FRAGMENT), "'", Desk.QUERY, MOST);
        refuses(filled("ws://h/", 597, Desk.FRAGMENT), "'", Desk.QUERY);
        refuses(filled("q://h/", 560, Desk.FRAGMENT), WIDE.repeat(100), Desk.QUERY);
    }

    private static void fragments() {
        sets(filled("q://h/", 598, Desk.QUERY), "a", Desk.FRAGMENT, MOST);
        refuses(filled("q://h/", 599, Desk.QUERY), "a", Desk.FRAGMENT);
        sets(filled("q://h/", 598, Desk.QUERY), "#a", Desk.FRAGMENT, MOST);
        refuses(filled("q://h/", 598, Desk.QUERY), "ab", Desk.FRAGMENT);
        sets(filled("q://h/", 599, Desk.QUERY), "#", Desk.FRAGMENT, MOST);
        refuses(filled("q://h/", MOST, Desk.QUERY), "#", Desk.FRAGMENT);
        sets(filled("q://h/", MOST, Desk.QUERY), "\t", Desk.FRAGMENT, MOST);
        sets(filled("q://h/", 593, Desk.QUERY), WIDE, Desk.FRAGMENT, MOST);
        refuses(filled("q://h/", 594, Desk.QUERY), WIDE, Desk.FRAGMENT);
        refuses(filled("q:/", 560, Desk.QUERY), WIDE.repeat(100), Desk.FRAGMENT);
    }

    private static void longestText() {
        Run run = filled("q://h/", MOST, Desk.QUERY).takes(Call.copy(1, 3));
        run.answers(Call.length(3, Desk.TEXT), MOST);
        run.answers(Call.charAt(3, Desk.TEXT, 0), 'q').answers(Call.charAt(3, Desk.TEXT, 599), 'b');
        run.answers(Call.charAt(3, Desk.TEXT, 600), UrlDesk.NONE).answers(Call.charAt(3, Desk.TEXT, 601), UrlDesk.NONE);
        run.answers(Call.same(1, 3, false), Run.TRUE).answers(Call.pairs(3), 1);
        Check.due("the copy", run.text(3), run.text(1));
    }
}
