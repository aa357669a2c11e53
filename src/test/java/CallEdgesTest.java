/** The boundary cases of promises 4 to 13: slots, bases, parts and places that are there and that are not. */
public final class CallEdgesTest {
    private static final int[] NO_SLOTS = {-1, 4, -2, 5, Edge.LOWEST, Edge.HIGHEST, 256, 65536, -4};
    private static final int[] NO_PARTS = {-1, 9, -2, 10, Edge.LOWEST, Edge.HIGHEST, 256, 65536, -9};
    // The slot that a busy run leaves without a URL.
    private static final int EMPTY = 3;

    public static void main(String[] args) {
        Edge.test("There are SLOTS 0 .. 3, each with a URL or none (at first)", CallEdgesTest::slots);
        Edge.test("PARTS: 0 the text, 1 the scheme, 2 the username, 3 the password, 4 the host, 5 the port in decimal,"
                + " 6 the path as it stands in the text (without /. ), 7 the query, 8 the fragment.", CallEdgesTest::parts);
        Edge.test("A call that answers false or less than 0 changes nothing.", CallEdgesTest::refusedInARow);
        Edge.test("Reads the draft, with the URL of slot base, or without when base is -1", CallEdgesTest::bases);
        Edge.test("when it does not fail, slot has the URL that was read", CallEdgesTest::readIntoASlot);
        Edge.test("false when it fails, slot is not 0 .. 3, base is not -1 .. 3, or slot base has none",
                CallEdgesTest::refusedReads);
        Edge.test("(The draft stays; slot and base may be the same.)", CallEdgesTest::draftStays);
        Edge.test("Puts the draft in the place of a part of the URL of a slot", CallEdgesTest::otherPartsStay);
        Edge.test("part 2 or 3, encoded by USERINFO", CallEdgesTest::credentials);
        Edge.test("part 5: the port that the digits at the beginning of the draft make, whatever is behind them",
                CallEdgesTest::portAtTheBeginning);
        Edge.test("(none when the draft is empty, or it is the usual one)", CallEdgesTest::portsThatAreNone);
        Edge.test("part 7 or 8: each 9, 10 and 13 is left out first; when nothing is left, there is none; else a ?"
                + " (for 8 a #) at the beginning is taken off, and what remains is encoded as in reading",
                CallEdgesTest::tails);
        Edge.test("False when the slot has none, part is another", CallEdgesTest::refusedSlotsAndParts);
        Edge.test("for 2, 3 and 5 when the host is none or empty", CallEdgesTest::refusedWithoutHost);
        Edge.test("for 5 when the draft is not empty and does not begin with a digit, or the number is more than 65535",
                CallEdgesTest::refusedPorts);
        Edge.test("The URL of a slot becomes that of another one.", CallEdgesTest::copies);
        Edge.test("False when one of them is not 0 .. 3 or from has none.", CallEdgesTest::refusedCopies);
        Edge.test("The number of characters of a part; NONE when the URL has none (no host, port, query or fragment);"
                + " BAD when there is no URL or no such part.", CallEdgesTest::lengths);
        Edge.test("Character i (0 the first) of a part; NONE when there is none (no URL or part, too).",
                CallEdgesTest::characters);
        Edge.test("The port; NONE when there is none; BAD when there is no URL.", CallEdgesTest::ports);
        Edge.test("How many segments the path has; NONE when it is opaque; BAD when there is no URL.",
                CallEdgesTest::segments);
        Edge.test("Whether the texts of two URLs are the same", CallEdgesTest::same);
        Edge.test("their fragments left out when bare is true", CallEdgesTest::bare);
        Edge.test("false also when one is not there", CallEdgesTest::sameOfNone);
        Edge.test("it is cut at &, empty pieces are left out", CallEdgesTest::pairNumbers);
        Edge.test("each other one is a pair of a NAME, up to its first =, and a VALUE, what is behind that"
                + " (empty without =)", CallEdgesTest::namesAndValues);
        Edge.test("0 without a query or URL", CallEdgesTest::noPairs);
        Edge.test("Byte i of the name (value false) or of the value of pair k of the query, after + was made a space"
                + " and the rest was decoded; NONE when there is none.", CallEdgesTest::pairBytes);
        Check.end();
    }

    private static void slots() {
        for (int slot = 0; slot < 4; slot++) {
            Run run = new Run().draft("q:a").answers(Call.length(slot, 0), UrlDesk.BAD);
            run.takes(Call.read(slot, -1)).answers(Call.length(slot, 0), 3).takes(Call.set(slot, 8));
            Check.due("the text of slot " + slot, run.text(slot), "q:a#q:a");
            for (int other = 0; other < 4; other++) {
                if (other != slot) {
                    run.answers(Call.length(other, 0), UrlDesk.BAD);
                }
            }
        }
        for (int slot : NO_SLOTS) {
            Run run = Run.busy().answers(Call.length(slot, 0), UrlDesk.BAD).answers(Call.port(slot), UrlDesk.BAD);
            run.answers(Call.charAt(slot, 0, 0), UrlDesk.NONE).answers(Call.segments(slot), UrlDesk.BAD);
            run.answers(Call.pairs(slot), 0).answers(Call.pairAt(slot, 0, true, 0), UrlDesk.NONE);
            run.refuses(Call.same(slot, slot, true)).refuses(Call.set(slot, 7)).refuses(Call.read(slot, 0));
        }
    }

    private static void parts() {
        String[] parts = {"http://u:p@h:8/a/b?c=d#e", "http", "u", "p", "h", "8", "/a/b", "c=d", "e"};
        Run run = Run.busy();
        for (int part = 0; part < 9; part++) {
            Check.due("part " + part, run.part(0, part), parts[part]);
        }
        for (int part : NO_PARTS) {
            run.answers(Call.length(0, part), UrlDesk.BAD).answers(Call.charAt(0, part, 0), UrlDesk.NONE);
            run.refuses(Call.set(0, part));
        }
    }

    /** The refused calls stand one behind the other in one run, and what follows is as without them. */
    private static void refusedInARow() {
        Call[] refused = {
            Call.type(0), Call.type(256), Call.cut(-1), Call.cut(4), Call.read(0, -1), Call.read(4, 0), Call.read(0, 3),
            Call.read(3, -2), Call.read(3, 2), Call.set(0, 0), Call.set(0, 5), Call.set(2, 2), Call.set(3, 7),
            Call.copy(3, 0), Call.copy(0, 4), Call.copy(-1, 0), Call.length(3, 0), Call.length(0, 9),
            Call.length(2, 4), Call.charAt(0, 0, 24), Call.charAt(0, 0, -1), Call.charAt(3, 0, 0), Call.port(1),
            Call.port(3), Call.segments(2), Call.segments(3), Call.same(0, 1, true), Call.same(0, 3, false),
            Call.pairAt(0, 0, false, 1), Call.pairAt(0, 1, false, 0), Call.pairAt(1, 0, false, 0)
        };
        Run run = Run.busy();
        String before = run.state();
        for (Call call : refused) {
            Check.due("less than 1 from " + call.name(), run.answer(call) < 1, true);
            run.then(call);
        }
        Check.due("the state behind all of them", run.state(), before);
        goOn(run);
        Check.due("what follows", run.state(), goOn(Run.busy()).state());
        Check.due("one of its texts", run.text(3), "http://xyz:xyz@h:8/a/xyz?w#xyz");
    }

    private static Run goOn(Run run) {
        run.takes(Call.read(1, 0)).takes(Call.set(0, 2)).takes(Call.set(0, 3)).takes(Call.read(3, 0));
        run.takes(Call.set(3, 8)).takes(Call.copy(2, 1)).draft("w").takes(Call.set(3, 7)).takes(Call.set(2, 7));
        return run;
    }

    private static void bases() {
        Run run = Run.busy().draft("#x").refuses(Call.read(EMPTY, -1)).refuses(Call.read(EMPTY, EMPTY));
        String[] texts = {"http://u:p@h:8/a/b?c=d#x", "q://k#x", "q:o#x"};
        for (int base = 0; base < 3; base++) {
            run.takes(Call.read(EMPTY, base));
            Check.due("with base " + base, run.text(EMPTY), texts[base]);
        }
        run.draft("#y").takes(Call.read(0, EMPTY));
        Check.due("with base 3", run.text(0), "q:o#y");
        run.draft("r:z").takes(Call.read(0, -1));
        Check.due("without", run.text(0), "r:z");
    }

    private static void readIntoASlot() {
        for (int slot = 0; slot < 4; slot++) {
            Run before = Run.busy().draft("r://new");
            String[] texts = {before.text(0), before.text(1), before.text(2), before.text(3)};
            Run run = before.takes(Call.read(slot, -1));
            texts[slot] = "r://new";
            for (int other = 0; other < 4; other++) {
                Check.due("the text of slot " + other, run.text(other), texts[other]);
            }
            run.answers(Call.port(slot), UrlDesk.NONE).answers(Call.length(slot, Desk.FRAGMENT), UrlDesk.NONE);
        }
    }

    private static void refusedReads() {
        Run run = Run.busy().draft("r:x");
        for (int slot : NO_SLOTS) {
            run.refuses(Call.read(slot, -1)).refuses(Call.read(slot, 0)).refuses(Call.read(slot, slot));
        }
        for (int base : new int[] {-2, 4, -3, 5, Edge.LOWEST, Edge.HIGHEST, 255, 65535}) {
            run.refuses(Call.read(0, base)).refuses(Call.read(EMPTY, base));
        }
        run.refuses(Call.read(0, EMPTY)).refuses(Call.read(EMPTY, EMPTY));
        Run fails = Run.busy().draft("http://a b");
        for (int base = -1; base < 4; base++) {
            fails.refuses(Call.read(0, base)).refuses(Call.read(EMPTY, base));
        }
        Run.busy().draft("r:x").takes(Call.read(0, -1)).takes(Call.read(3, 0)).takes(Call.read(0, 3));
    }

    private static void draftStays() {
        Run run = Run.busy().draft(" ../\tx ").takes(Call.read(0, 0));
        Check.due("the draft", run.draftText(), "%20..%2F%09x%20");
        Check.due("read over its base", run.text(0), "http://u:p@h:8/x");
        run.takes(Call.read(0, 0)).takes(Call.read(3, 0));
        Check.due("read again", run.text(3), "http://u:p@h:8/x");
        run.draft("#f").takes(Call.read(2, 2));
        Check.due("an opaque one over itself", run.text(2), "q:o#f");
        run.draft("").takes(Call.read(0, 0));
        Check.due("an empty draft over its base", run.text(0), "http://u:p@h:8/x");
        run.draft("1").takes(Call.set(0, 5));
        Check.due("the draft behind set", run.draftText(), "1");
        Run fails = Run.busy().draft(" ../\tx ").refuses(Call.read(0, -1));
        Check.due("the draft of a reading that fails", fails.draftText(), "%20..%2F%09x%20");
    }

    /** Nothing but the part changes, whatever was read or set before in other slots. */
    private static void otherPartsStay() {
        Run run = Run.busy().draft("'").takes(Call.set(0, 7)).takes(Call.set(2, 7)).takes(Call.set(1, 7));
        Check.due("a special one", run.text(0), "http://u:p@h:8/a/b?%27#e");
        Check.due("a list that is not special", run.text(1), "q://k?'");
        Check.due("an opaque one", run.text(2), "q:o?'");
        run.answers(Call.segments(0), 2).answers(Call.segments(1), 0).answers(Call.segments(2), UrlDesk.NONE);
        run.answers(Call.port(0), 8).answers(Call.port(1), UrlDesk.NONE).answers(Call.port(2), UrlDesk.NONE);
        run.draft("80").takes(Call.set(1, 5)).takes(Call.set(0, 5));
        run.answers(Call.port(0), UrlDesk.NONE).answers(Call.port(1), 80);
        run.draft("x").takes(Call.set(2, 8)).takes(Call.set(0, 2)).takes(Call.set(1, 3));
        Check.due("the special one again", run.text(0), "http://x:p@h/a/b?%27#e");
        Check.due("the list again", run.text(1), "q://:x@k:80?'");
        Check.due("the opaque one again", run.text(2), "q:o?'#x");
        run.answers(Call.segments(2), UrlDesk.NONE).answers(Call.segments(0), 2);
        run.draft("http:y").takes(Call.read(EMPTY, 0));
        Check.due("one that was set as base", run.text(EMPTY), "http://x:p@h/a/y");
    }

    private static void credentials() {
        Edge.sets("q://h", "", Desk.USERNAME, "q://h");
        Edge.sets("q://h", "", Desk.PASSWORD, "q://h");
        Edge.sets("q://u:p@h", "", Desk.USERNAME, "q://:p@h");
        Edge.sets("q://u:p@h", "", Desk.PASSWORD, "q://u@h");
        Edge.sets("q://u:p@h", "a", Desk.USERNAME, "q://a:p@h");
        Edge.sets("q://u:p@h", "a", Desk.PASSWORD, "q://u:a@h");
        Edge.sets("q://h", " \t\n\r ", Desk.USERNAME, "q://%20%09%0A%0D%20@h");
        Edge.sets("q://h", " \t\n\r ", Desk.PASSWORD, "q://:%20%09%0A%0D%20@h");
        Edge.sets("q://h", "@:", Desk.USERNAME, "q://%40%3A@h");
        Edge.sets("q://h", ":@", Desk.PASSWORD, "q://:%3A%40@h");
        Edge.sets("q://h", "a".repeat(100), Desk.USERNAME, "q://" + "a".repeat(100) + "@h");
        Edge.sets("q://h", "a".repeat(100), Desk.PASSWORD, "q://:" + "a".repeat(100) + "@h");
    }

    private static void portAtTheBeginning() {
        Edge.sets("q://h:7", "0", Desk.PORT, "q://h:0");
        Edge.sets("q://h:7", "9", Desk.PORT, "q://h:9");
        Edge.sets("q://h", "65535", Desk.PORT, "q://h:65535");
        Edge.sets("q://h", "65535x", Desk.PORT, "q://h:65535");
        Edge.sets("q://h", "0".repeat(95) + "65535", Desk.PORT, "q://h:65535");
        Edge.sets("q://h", "0".repeat(100), Desk.PORT, "q://h:0");
        String[] behind = {"x", " ", "\t", "\t9", "/", ":", "/9", ":9", "-", ".5", "%39", "\u00e9", "?a", "#a", "x" + "9".repeat(90)};
        for (String text : behind) {
            Edge.sets("q://h:7", "12" + text, Desk.PORT, "q://h:12");
        }
    }

    private static void portsThatAreNone() {
        Edge.sets("q://h:7", "", Desk.PORT, "q://h");
        Edge.sets("q://h", "", Desk.PORT, "q://h");
        Edge.sets("http://h:7", "", Desk.PORT, "http://h/");
        Edge.sets("http://h:7", "80", Desk.PORT, "http://h/");
        Edge.sets("http://h:7", "80x", Desk.PORT, "http://h/");
        Edge.sets("http://h:7", "00080", Desk.PORT, "http://h/");
        Edge.sets("http://h:7", "79", Desk.PORT, "http://h:79/");
        Edge.sets("http://h:7", "81", Desk.PORT, "http://h:81/");
        Edge.sets("http://h:7", "443", Desk.PORT, "http://h:443/");
        Edge.sets("q://h:7", "80", Desk.PORT, "q://h:80");
        Run run = Run.busy().draft("80").takes(Call.set(0, Desk.PORT));
        run.answers(Call.port(0), UrlDesk.NONE).answers(Call.length(0, Desk.PORT), UrlDesk.NONE);
    }

    private static void tails() {
        for (int part = Desk.QUERY; part <= Desk.FRAGMENT; part++) {
            String mark = part == Desk.QUERY ? "?" : "#";
            String start = "q:a" + mark;
            for (String nothing : new String[] {"", "\t", "\n", "\r", "\t\n\r\t\n\r", "\t".repeat(100)}) {
                Edge.sets(start + "b", nothing, part, "q:a");
                Edge.sets("q:a", nothing, part, "q:a");
            }
            for (String empty : new String[] {mark, "\t" + mark, mark + "\n", "\r" + mark + "\t"}) {
                Edge.sets(start + "b", empty, part, start);
                Edge.sets("q:a", empty, part, start);
            }
            Edge.sets("q:a", mark + mark, part, start + mark);
            Edge.sets("q:a", "\t" + mark + "\nb\rc", part, start + "bc");
            Edge.sets("q:a", "b" + "\t\n\r" + "c", part, start + "bc");
            Edge.sets("q:a", "\u0008\u000b\u000c\u000e", part, start + "%08%0B%0C%0E");
            Edge.sets("q:a", " ", part, start + "%20");
            Edge.sets("q:a", " " + "x ", part, start + "%20x%20");
            Edge.sets("q://h", "b", part, "q://h" + mark + "b");
            Edge.sets("q:", "b", part, "q:" + mark + "b");
        }
        Edge.sets("q:a", "#", Desk.QUERY, "q:a?%23");
        Edge.sets("q:a", "?", Desk.FRAGMENT, "q:a#?");
        Edge.sets("q:a", "'", Desk.QUERY, "q:a?'");
        Edge.sets("http://h", "'", Desk.QUERY, "http://h/?%27");
        Edge.sets("http://h", "'", Desk.FRAGMENT, "http://h/#'");
        Edge.sets("q:a?b#c", "", Desk.QUERY, "q:a#c");
        Edge.sets("q:a?b#c", "", Desk.FRAGMENT, "q:a?b");
        Edge.sets("q:a#c", "b", Desk.QUERY, "q:a?b#c");
    }

    private static void refusedSlotsAndParts() {
        Run run = Run.busy().draft("9");
        for (int part : new int[] {2, 3, 5, 7, 8}) {
            run.refuses(Call.set(EMPTY, part));
            for (int slot : NO_SLOTS) {
                run.refuses(Call.set(slot, part));
            }
        }
        for (int slot = 0; slot < 4; slot++) {
            for (int part : NO_PARTS) {
                run.refuses(Call.set(slot, part));
            }
            for (int part : new int[] {0, 1, 4, 6}) {
                run.refuses(Call.set(slot, part));
            }
        }
        Run empty = Run.busy().draft("");
        for (int part : new int[] {-1, 0, 1, 4, 6, 9}) {
            empty.refuses(Call.set(0, part));
        }
    }

    private static void refusedWithoutHost() {
        for (String text : new String[] {"q:", "q:a", "q:/", "q:/.//a", "q://", "q:///a", "q://?a#b"}) {
            for (int part : new int[] {Desk.USERNAME, Desk.PASSWORD, Desk.PORT}) {
                Edge.refuses(text, "", part);
                Edge.refuses(text, "9", part);
                Edge.refuses(text, "a", part);
            }
        }
        for (String text : new String[] {"q:", "q:a", "q:/", "q://", "q:///a"}) {
            Edge.sets(text, "9", Desk.QUERY, text + "?9");
            Edge.sets(text, "9", Desk.FRAGMENT, text + "#9");
        }
        Edge.sets("q://h", "9", Desk.USERNAME, "q://9@h");
        Edge.sets("q://h", "9", Desk.PASSWORD, "q://:9@h");
        Edge.sets("q://h", "9", Desk.PORT, "q://h:9");
        Edge.sets("q://.", "9", Desk.PORT, "q://.:9");
    }

    private static void refusedPorts() {
        String[] noDigits = {"x", "/", ":", " ", "\t", "\n", "-", "+", "x8", "/8", ":8", " 8", "\t8", "-8", "%38", "\u00b2", "\u0001"};
        String[] tooHigh = {
            "65536", "65536x", "65537", "65616", "70000", "99999", "100000", "655350", "2147483648", "4294967296",
            "4294967304", "18446744073709551616", "18446744073709551624", "9".repeat(100), "0".repeat(95) + "65536",
            "0".repeat(94) + "655350"
        };
        for (String text : new String[] {"q://h", "q://h:7", "http://u:p@h/a?b#c"}) {
            for (String draft : noDigits) {
                Edge.refuses(text, draft, Desk.PORT);
            }
            for (String draft : tooHigh) {
                Edge.refuses(text, draft, Desk.PORT);
            }
        }
        Edge.sets("q://h:7", "65535", Desk.PORT, "q://h:65535");
        Edge.sets("q://h:7", "0", Desk.PORT, "q://h:0");
    }

    private static void copies() {
        for (int from = 0; from < 3; from++) {
            for (int to = 0; to < 4; to++) {
                Run run = Run.busy();
                String[] texts = {run.text(0), run.text(1), run.text(2), run.text(3)};
                texts[to] = texts[from];
                int port = run.answer(Call.port(from));
                int segments = run.answer(Call.segments(from));
                run.takes(Call.copy(from, to));
                for (int slot = 0; slot < 4; slot++) {
                    Check.due("the text of slot " + slot, run.text(slot), texts[slot]);
                }
                run.answers(Call.port(to), port).answers(Call.segments(to), segments);
            }
        }
        Run kinds = Run.busy().takes(Call.copy(0, 3)).takes(Call.copy(1, 0)).takes(Call.copy(3, 1)).draft("80'");
        kinds.takes(Call.set(0, 5)).takes(Call.set(1, 5)).takes(Call.set(0, 7)).takes(Call.set(1, 7));
        Check.due("a copy that is not special", kinds.text(0), "q://k:80?80'");
        Check.due("a copy that is special", kinds.text(1), "http://u:p@h/a/b?80%27#e");
        Run apart = Run.busy().takes(Call.copy(0, 3)).takes(Call.set(3, 8)).takes(Call.set(0, 7));
        Check.due("a copy that was changed", apart.text(3), "http://u:p@h:8/a/b?c=d#xyz");
        Check.due("what it was copied from", apart.text(0), "http://u:p@h:8/a/b?xyz#e");
    }

    private static void refusedCopies() {
        Run run = Run.busy();
        for (int slot : NO_SLOTS) {
            run.refuses(Call.copy(slot, 0)).refuses(Call.copy(slot, EMPTY)).refuses(Call.copy(0, slot));
            run.refuses(Call.copy(slot, slot)).refuses(Call.copy(EMPTY, slot));
        }
        for (int to = 0; to < 4; to++) {
            run.refuses(Call.copy(EMPTY, to));
        }
    }

    private static void lengths() {
        int[] want = {24, 4, 1, 1, 1, 1, 4, 3, 1};
        Run run = Run.busy();
        for (int part = 0; part < 9; part++) {
            run.answers(Call.length(0, part), want[part]).answers(Call.length(EMPTY, part), UrlDesk.BAD);
            for (int slot : NO_SLOTS) {
                run.answers(Call.length(slot, part), UrlDesk.BAD);
            }
        }
        for (int part : NO_PARTS) {
            run.answers(Call.length(0, part), UrlDesk.BAD).answers(Call.length(EMPTY, part), UrlDesk.BAD);
        }
        for (int part : new int[] {4, 5, 7, 8}) {
            run.answers(Call.length(2, part), UrlDesk.NONE);
        }
        run.answers(Call.length(1, 4), 1).answers(Call.length(1, 6), 0).answers(Call.length(2, 2), 0);
        run.read("q://?#", 1, -1);
        run.answers(Call.length(1, 4), 0).answers(Call.length(1, 7), 0).answers(Call.length(1, 8), 0);
    }

    private static void characters() {
        String[] parts = {"http://u:p@h:8/a/b?c=d#e", "http", "u", "p", "h", "8", "/a/b", "c=d", "e"};
        Run run = Run.busy();
        for (int part = 0; part < 9; part++) {
            int last = parts[part].length() - 1;
            run.answers(Call.charAt(0, part, 0), parts[part].charAt(0));
            run.answers(Call.charAt(0, part, last), parts[part].charAt(last));
            for (int i : new int[] {-1, last + 1, last + 2, 600, Edge.LOWEST, Edge.HIGHEST, Edge.HIGHEST - 10, -24}) {
                run.answers(Call.charAt(0, part, i), UrlDesk.NONE);
            }
            run.answers(Call.charAt(EMPTY, part, 0), UrlDesk.NONE);
        }
        for (int part : NO_PARTS) {
            run.answers(Call.charAt(0, part, 0), UrlDesk.NONE);
        }
        for (int slot : NO_SLOTS) {
            run.answers(Call.charAt(slot, 0, 0), UrlDesk.NONE);
        }
        for (int part : new int[] {2, 3, 4, 5, 7, 8}) {
            run.answers(Call.charAt(2, part, 0), UrlDesk.NONE).answers(Call.charAt(2, part, -1), UrlDesk.NONE);
        }
    }

    private static void ports() {
        Run run = Run.busy().answers(Call.port(0), 8).answers(Call.port(1), UrlDesk.NONE);
        run.answers(Call.port(2), UrlDesk.NONE).answers(Call.port(EMPTY), UrlDesk.BAD);
        for (int slot : NO_SLOTS) {
            run.answers(Call.port(slot), UrlDesk.BAD);
        }
        for (int port : new int[] {0, 1, 80, 65534, 65535}) {
            Run.busy().read("q://h:" + port, 1, -1).answers(Call.port(1), port);
            Run.busy().set("" + port, 1, Desk.PORT).answers(Call.port(1), port);
        }
    }

    private static void segments() {
        Run run = Run.busy().answers(Call.segments(0), 2).answers(Call.segments(1), 0);
        run.answers(Call.segments(2), UrlDesk.NONE).answers(Call.segments(EMPTY), UrlDesk.BAD);
        for (int slot : NO_SLOTS) {
            run.answers(Call.segments(slot), UrlDesk.BAD);
        }
        String[] texts = {"q:", "q:a/b", "q:/", "q://", "q:///", "q:/.//", "q://h/a", "q://h/a/", "http://h", "q://h?/#/", "q://h/" + "/".repeat(94)};
        int[] want = {UrlDesk.NONE, UrlDesk.NONE, 1, 0, 1, 2, 1, 2, 1, 0, 95};
        for (int i = 0; i < texts.length; i++) {
            Run.busy().read(texts[i], 1, -1).answers(Call.segments(1), want[i]);
        }
    }

    /** Slots 0 and 1 have these texts. */
    private static void same(String first, String second, boolean whole, boolean bare) {
        Run run = Run.busy().read(first, 0, -1).read(second, 1, -1);
        Check.due("both are there", run.text(0) != null && run.text(1) != null, true);
        run.answers(Call.same(0, 1, false), whole ? 1 : 0).answers(Call.same(1, 0, false), whole ? 1 : 0);
        run.answers(Call.same(0, 1, true), bare ? 1 : 0).answers(Call.same(1, 0, true), bare ? 1 : 0);
    }

    private static void same() {
        same("q:a", "q:a", true, true);
        same("q:a", "q:b", false, false);
        same("q:a", "q:ab", false, false);
        same("q:a", "r:a", false, false);
        same("q:", "q:", true, true);
        same("q:", "q:/", false, false);
        same("q://", "q:///", false, false);
        same("q:a?", "q:a", false, false);
        same("HTTP:\\\\H:80\\a\\..", "http://h/", true, true);
        same("http://0x7f.1", "http://127.0.0.1", true, true);
        same("q://[::]", "q://[0:0:0:0:0:0:0:0]", true, true);
        same("q:A", "q:a", false, false);
        same("q:%41", "q:A", false, false);
        Run run = Run.busy();
        for (int slot = 0; slot < 3; slot++) {
            run.answers(Call.same(slot, slot, false), 1).answers(Call.same(slot, slot, true), 1);
        }
    }

    private static void bare() {
        same("q:a#b", "q:a#b", true, true);
        same("q:a#b", "q:a#c", false, true);
        same("q:a#b", "q:a", false, true);
        same("q:a#", "q:a", false, true);
        same("q:a#", "q:a#b", false, true);
        same("q:#", "q:", false, true);
        same("q:a#b", "q:b#b", false, false);
        same("q:a?#b", "q:a#b", false, false);
        same("q:a?b#c", "q:a?b#d", false, true);
        same("q:a#b", "q:ab", false, false);
    }

    private static void sameOfNone() {
        Run run = Run.busy();
        for (int slot = 0; slot < 4; slot++) {
            run.refuses(Call.same(slot, EMPTY, false)).refuses(Call.same(EMPTY, slot, true));
            for (int none : NO_SLOTS) {
                run.refuses(Call.same(slot, none, true)).refuses(Call.same(none, slot, false));
            }
        }
        run.refuses(Call.same(-1, -1, false)).refuses(Call.same(4, 4, true)).refuses(Call.same(-1, 4, true));
    }

    private static void pairNumbers() {
        String[] queries = {"", "&", "&&", "a", "&a", "a&", "&a&", "a&b", "a&&b", "&&a&&b&&", "=", "=&=", "&=&", "a=b&c=d", "%26", "a+&+b"};
        int[] want = {0, 0, 0, 1, 1, 1, 1, 2, 2, 2, 1, 2, 1, 2, 1, 2};
        for (int i = 0; i < queries.length; i++) {
            Run.busy().read("q:x?" + queries[i], 1, -1).answers(Call.pairs(1), want[i]);
            Run.busy().read("http://h?" + queries[i] + "#a&b", 1, -1).answers(Call.pairs(1), want[i]);
        }
        Run.busy().read("q:?" + "a&".repeat(48) + "a", 1, -1).answers(Call.pairs(1), 49);
        Run.busy().set("a&".repeat(50), 1, Desk.QUERY).answers(Call.pairs(1), 50);
        Run.busy().set("&".repeat(100), 1, Desk.QUERY).answers(Call.pairs(1), 0);
        Run.busy().read("q:a&b", 1, -1).answers(Call.pairs(1), 0);
    }

    /** The bytes of one side of a pair, and that there is none before and none behind them. */
    private static void side(Run run, int k, boolean value, String want) {
        for (int i = 0; i < want.length(); i++) {
            run.answers(Call.pairAt(1, k, value, i), want.charAt(i));
        }
        for (int i : new int[] {-1, want.length(), want.length() + 1, Edge.LOWEST, Edge.HIGHEST}) {
            run.answers(Call.pairAt(1, k, value, i), UrlDesk.NONE);
        }
    }

    private static void pair(String query, String name, String value) {
        Run run = Run.busy().read("q:x?" + query + "#b=c", 1, -1);
        side(run, 0, false, name);
        side(run, 0, true, value);
    }

    private static void namesAndValues() {
        pair("a", "a", "");
        pair("a=", "a", "");
        pair("=a", "", "a");
        pair("=", "", "");
        pair("==", "", "=");
        pair("a=b", "a", "b");
        pair("a=b=c", "a", "b=c");
        pair("a==", "a", "=");
        pair("a%3Db", "a=b", "");
        pair("a&b=c", "a", "");
        pair("&a=b", "a", "b");
        Run run = Run.busy().read("q:x?a=1&&b&=2&", 1, -1);
        side(run, 0, false, "a");
        side(run, 0, true, "1");
        side(run, 1, false, "b");
        side(run, 1, true, "");
        side(run, 2, false, "");
        side(run, 2, true, "2");
        side(run, 3, false, "");
        side(run, 3, true, "");
    }

    private static void noPairs() {
        Run run = Run.busy().answers(Call.pairs(0), 1).answers(Call.pairs(1), 0).answers(Call.pairs(2), 0);
        run.answers(Call.pairs(EMPTY), 0);
        for (int slot : NO_SLOTS) {
            run.answers(Call.pairs(slot), 0);
        }
        Run.busy().read("q:x?", 1, -1).answers(Call.pairs(1), 0);
        Run.busy().read("q:x#a=b&c", 1, -1).answers(Call.pairs(1), 0);
    }

    private static void pairBytes() {
        pair("a+b=c+d", "a b", "c d");
        pair("+", " ", "");
        pair("=+", "", " ");
        pair("%2B=%2b", "+", "+");
        pair("%26=%3d", "&", "=");
        pair("%00=%fF", "\0", "\u00ff");
        pair("%=%4", "%", "%4");
        pair("%4=1", "%4", "1");
        pair("a%4&1", "a%4", "");
        pair("%2541", "%41", "");
        pair("+%20+", "   ", "");
        Run run = Run.busy();
        side(run.set("ab=c", 1, Desk.QUERY), 0, false, "ab");
        for (int k : new int[] {-1, 1, 2, Edge.LOWEST, Edge.HIGHEST}) {
            run.answers(Call.pairAt(1, k, false, 0), UrlDesk.NONE).answers(Call.pairAt(1, k, true, 0), UrlDesk.NONE);
        }
        for (int slot : new int[] {2, EMPTY, -1, 4, Edge.LOWEST, Edge.HIGHEST}) {
            run.answers(Call.pairAt(slot, 0, false, 0), UrlDesk.NONE).answers(Call.pairAt(slot, 0, true, 0), UrlDesk.NONE);
        }
        Run many = Run.busy().set("a&".repeat(49) + "b", 1, Desk.QUERY);
        many.answers(Call.pairAt(1, 48, false, 0), 'a').answers(Call.pairAt(1, 49, false, 0), 'b');
        many.answers(Call.pairAt(1, 50, false, 0), UrlDesk.NONE);
    }
}
