/** The boundary cases of promises 1 to 3, and of how many calls an object is used for. */
public final class DraftEdgesTest {
    private static final int MOST_CALLS = 512;

    public static void main(String[] args) {
        Edge.test("An object is used for at most 512 calls after it has been made", DraftEdgesTest::theLastCall);
        Edge.test("what later calls answer is free", DraftEdgesTest::laterCallsEnd);
        Edge.test("No URLs; the draft is empty.", DraftEdgesTest::newObject);
        Edge.test("CHARACTERS are 1 .. 255.", DraftEdgesTest::characters);
        Edge.test("a DRAFT of at most 100 characters", DraftEdgesTest::fullDraft);
        Edge.test("Appends a character to the draft.", DraftEdgesTest::appends);
        Edge.test("False when c is not 1 .. 255 or it has 100.", DraftEdgesTest::refusedCharacters);
        Edge.test("The draft keeps its first n characters.", DraftEdgesTest::cuts);
        Edge.test("False when n is negative or more than it has.", DraftEdgesTest::refusedCuts);
        Check.end();
    }

    /** A busy run with so many calls behind it; they change the draft and change it back. */
    private static Run busyFor(int calls) {
        Run run = new Run();
        boolean typed = false;
        int own = 24 + 1 + 5 + 1 + 3 + 1 + 3 + 4;
        for (int n = own; n < calls; n++) {
            typed = !typed;
            run.then(typed ? Call.type('w') : Call.cut(0));
        }
        return run.read("http://u:p@h:8/a/b?c=d#e", 0, -1).read("q://k", 1, -1).read("q:o", 2, -1).draft("xyz");
    }

    private static void theLastCall() {
        Run run = busyFor(MOST_CALLS - 1);
        Check.due("calls before the last one", run.size(), MOST_CALLS - 1);
        Check.due("type 1", run.answer(Call.type(1)), 1);
        Check.due("type 0", run.answer(Call.type(0)), 0);
        Check.due("cut(3)", run.answer(Call.cut(3)), 1);
        Check.due("cut(4)", run.answer(Call.cut(4)), 0);
        Check.due("read(3, 0)", run.answer(Call.read(3, 0)), 1);
        Check.due("read(3, -1)", run.answer(Call.read(3, -1)), 0);
        Check.due("set(0, 7)", run.answer(Call.set(0, 7)), 1);
        Check.due("set(2, 2)", run.answer(Call.set(2, 2)), 0);
        Check.due("copy(2, 3)", run.answer(Call.copy(2, 3)), 1);
        Check.due("copy(3, 2)", run.answer(Call.copy(3, 2)), 0);
        Check.due("length(0, 0)", run.answer(Call.length(0, 0)), 24);
        Check.due("length(3, 0)", run.answer(Call.length(3, 0)), UrlDesk.BAD);
        Check.due("charAt(0, 0, 23)", run.answer(Call.charAt(0, 0, 23)), (int) 'e');
        Check.due("charAt(0, 0, 24)", run.answer(Call.charAt(0, 0, 24)), UrlDesk.NONE);
        Check.due("port(0)", run.answer(Call.port(0)), 8);
        Check.due("segments(0)", run.answer(Call.segments(0)), 2);
        Check.due("same(1, 1, true)", run.answer(Call.same(1, 1, true)), 1);
        Check.due("same(1, 2, true)", run.answer(Call.same(1, 2, true)), 0);
        Check.due("pairs(0)", run.answer(Call.pairs(0)), 1);
        Check.due("pairAt(0, 0, true, 0)", run.answer(Call.pairAt(0, 0, true, 0)), (int) 'd');
        theLastButOneCall();
    }

    private static void theLastButOneCall() {
        int before = MOST_CALLS - 2;
        Check.due("type is kept", busyFor(before).then(Call.type('w')).answer(Call.cut(4)), 1);
        Check.due("cut is kept", busyFor(before).then(Call.cut(2)).answer(Call.cut(3)), 0);
        Check.due("read is kept", busyFor(before).then(Call.read(3, 0)).answer(Call.length(3, 6)), 6);
        Check.due("set is kept", busyFor(before).then(Call.set(0, 3)).answer(Call.length(0, 3)), 3);
        Check.due("copy is kept", busyFor(before).then(Call.copy(0, 2)).answer(Call.same(0, 2, false)), 1);
    }

    /** Free is what they answer: that they end and throw nothing is asked for of every call. */
    private static void laterCallsEnd() {
        UrlDesk desk = new UrlDesk();
        int ended = 0;
        for (int n = 0; n < 100; n++) {
            for (int arg = -3; arg < 11; arg++) {
                Call[] calls = {
                    Call.type("http://u@h:9/a?b=c#".charAt(n % 19)), Call.read(arg, -1), Call.read(arg, n % 4),
                    Call.set(n % 4, arg), Call.copy(arg, n % 4), Call.length(n % 4, arg), Call.charAt(n % 4, arg, n),
                    Call.port(arg), Call.segments(arg), Call.same(arg, n % 4, true), Call.pairs(arg),
                    Call.pairAt(n % 4, arg, false, arg), Call.cut(n % 20 == 0 ? 0 : 100 - arg)
                };
                for (Call call : calls) {
                    call.on(desk);
                    ended++;
                }
            }
        }
        Check.due("calls that ended", ended, 100 * 14 * 13);
    }

    private static void newObject() {
        Run run = new Run();
        Check.due("the draft's size", run.draftSize(), 0);
        run.takes(Call.cut(0)).refuses(Call.cut(1)).refuses(Call.read(0, -1));
        for (int slot = 0; slot < 4; slot++) {
            run.answers(Call.length(slot, 0), UrlDesk.BAD);
            run.answers(Call.charAt(slot, 0, 0), UrlDesk.NONE);
            run.answers(Call.port(slot), UrlDesk.BAD);
            run.answers(Call.segments(slot), UrlDesk.BAD);
            run.answers(Call.pairs(slot), 0);
            run.answers(Call.pairAt(slot, 0, false, 0), UrlDesk.NONE);
            run.refuses(Call.same(slot, slot, false)).refuses(Call.same(slot, slot, true));
            run.refuses(Call.copy(slot, 0)).refuses(Call.set(slot, 7)).refuses(Call.read(0, slot));
        }
        UrlDesk used = new UrlDesk();
        used.type('q');
        used.type(':');
        used.read(0, -1);
        Check.due("a second object's slot", new UrlDesk().length(0, 0), UrlDesk.BAD);
        Check.due("a second object's draft", new UrlDesk().cut(1), false);
    }

    private static void characters() {
        for (int c = 1; c <= 255; c++) {
            Check.due("type " + c, new UrlDesk().type((char) c), true);
        }
        Run run = Run.busy().draft("");
        run.takes(Call.type(1)).takes(Call.type(255));
        Check.due("the first and the last", run.draftText(), "%01%C3%BF");
    }

    private static void fullDraft() {
        Run run = Run.busy().draft("a".repeat(99));
        run.takes(Call.type('b'));
        Check.due("a full draft", run.draftText(), "a".repeat(99) + "b");
        run.refuses(Call.type('c'));
        run.takes(Call.cut(100)).refuses(Call.type('c'));
        run.takes(Call.cut(99)).takes(Call.type('c')).refuses(Call.type('d'));
        Check.due("the last one anew", run.draftText(), "a".repeat(99) + "c");
        Run full = new Run().draft("q:" + "a".repeat(98)).takes(Call.read(0, -1));
        Check.due("a full draft that was read", full.text(0), "q:" + "a".repeat(98));
    }

    private static void appends() {
        Run run = Run.busy().draft("").takes(Call.type('b')).takes(Call.type('a')).takes(Call.type('a'));
        Check.due("the draft", run.draftText(), "baa");
        Check.due("its size", run.draftSize(), 3);
    }

    private static void refusedCharacters() {
        Run run = Run.busy();
        for (int c : new int[] {0, 256, 256 + 'a', 257, 511, 512, 32768, 65535}) {
            run.refuses(Call.type(c));
        }
        Run full = Run.busy().draft("a".repeat(100));
        for (int c : new int[] {0, 1, 'a', 255, 256}) {
            full.refuses(Call.type(c));
        }
    }

    private static void cuts() {
        Run run = Run.busy().draft("abcdef");
        run.takes(Call.cut(6));
        Check.due("all", run.draftText(), "abcdef");
        run.takes(Call.cut(5));
        Check.due("all but one", run.draftText(), "abcde");
        run.takes(Call.cut(1));
        Check.due("the first", run.draftText(), "a");
        run.takes(Call.type('z'));
        Check.due("one behind it", run.draftText(), "az");
        run.takes(Call.cut(0)).takes(Call.cut(0));
        Check.due("nothing", run.draftSize(), 0);
        Run full = Run.busy().draft("a".repeat(100)).takes(Call.cut(100));
        Check.due("a full one", full.draftSize(), 100);
    }

    private static void refusedCuts() {
        Run.busy().refuses(Call.cut(-1)).refuses(Call.cut(Edge.LOWEST));
        Run.busy().refuses(Call.cut(4)).refuses(Call.cut(100)).refuses(Call.cut(Edge.HIGHEST));
        Run.busy().then(Call.cut(2)).refuses(Call.cut(3));
        Run.busy().draft("").refuses(Call.cut(1)).refuses(Call.cut(-1));
        Run.busy().draft("a".repeat(100)).refuses(Call.cut(101)).refuses(Call.cut(-1));
    }
}
