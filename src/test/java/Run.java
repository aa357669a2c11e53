import java.util.ArrayList;
import java.util.List;

/**
 * A run of calls that is made again on a new object for every look at what it leads to: so all of
 * the state can be looked at, within the calls that an object promises, and no look disturbs it.
 */
final class Run {
    static final int TRUE = 1;
    static final int FALSE = 0;

    private static final int MOST_CALLS = 512;
    private static final int SLOTS = 4;
    private static final int PARTS = 9;
    private static final int DRAFT_ROOM = 100;

    private final List<Call> calls = new ArrayList<>();
    // The state is told once for each length of the run.
    private String told;

    /** Three different URLs, a slot without one, and a draft: so that whatever changes is seen. */
    static Run busy() {
        Run run = new Run().read("http://u:p@h:8/a/b?c=d#e", 0, -1).read("q://k", 1, -1).read("q:o", 2, -1);
        return run.draft("xyz");
    }

    Run then(Call call) {
        calls.add(call);
        told = null;
        return this;
    }

    Run draft(String text) {
        then(Call.cut(0));
        for (char c : text.toCharArray()) {
            then(Call.type(c));
        }
        return this;
    }

    Run read(String text, int slot, int base) {
        return draft(text).then(Call.read(slot, base));
    }

    Run set(String text, int slot, int part) {
        return draft(text).then(Call.set(slot, part));
    }

    int size() {
        return calls.size();
    }

    /** The answer of a call behind the run, which stays as it is. */
    int answer(Call call) {
        return call.on(replay());
    }

    /** A call that must answer true; the run goes on behind it. */
    Run takes(Call call) {
        Check.due(call.name(), answer(call), TRUE);
        return then(call);
    }

    /** A call that must answer false. */
    Run refuses(Call call) {
        return answers(call, FALSE);
    }

    /** A call that only looks or is refused: what it answers is due, and it changes nothing. */
    Run answers(Call call, int want) {
        String before = state();
        Check.due(call.name(), answer(call), want);
        then(call);
        Check.due("the state behind " + call.name(), state(), before);
        calls.remove(calls.size() - 1);
        told = before;
        return this;
    }

    /** A part, character by character; null when there is none. */
    String part(int slot, int part) {
        return part(new Look(), slot, part);
    }

    private static String part(Look look, int slot, int part) {
        int length = look.ask(Call.length(slot, part));
        if (length < 0) {
            return null;
        }
        StringBuilder found = new StringBuilder();
        for (int i = 0; i < length; i++) {
            found.append((char) look.ask(Call.charAt(slot, part, i)));
        }
        return found.toString();
    }

    String text(int slot) {
        return part(slot, Desk.TEXT);
    }

    /** What the draft holds, as far as the face lets it be seen; the run stays as it is. */
    String draftText() {
        for (int slot = 0; slot < SLOTS; slot++) {
            for (int part : new int[] {Desk.USERNAME, Desk.FRAGMENT}) {
                if (answer(Call.set(slot, part)) == TRUE) {
                    return twin().then(Call.set(slot, part)).part(slot, part);
                }
            }
        }
        return twin().then(Call.read(0, -1)).text(0);
    }

    int draftSize() {
        UrlDesk desk = replay();
        int typed = 0;
        while (typed <= DRAFT_ROOM && desk.type('x')) {
            typed++;
        }
        return DRAFT_ROOM - typed;
    }

    /** All that can be seen behind the run. */
    String state() {
        if (told == null) {
            StringBuilder made = new StringBuilder("draft ");
            made.append(draftSize()).append(' ').append(draftText());
            Look look = new Look();
            for (int slot = 0; slot < SLOTS; slot++) {
                tellSlot(look, slot, made.append("\nslot ").append(slot));
            }
            told = made.toString();
        }
        return told;
    }

    private void tellSlot(Look look, int slot, StringBuilder made) {
        for (int part = 0; part < PARTS; part++) {
            made.append(' ').append(look.ask(Call.length(slot, part))).append(' ').append(part(look, slot, part));
        }
        made.append(' ').append(look.ask(Call.port(slot)));
        made.append(' ').append(look.ask(Call.segments(slot)));
        int pairs = look.ask(Call.pairs(slot));
        made.append(' ').append(pairs);
        for (int k = 0; k < pairs; k++) {
            made.append(' ').append(look.ask(Call.pairAt(slot, k, false, 0)));
            made.append(' ').append(look.ask(Call.pairAt(slot, k, true, 0)));
        }
        for (int other = 0; other < SLOTS; other++) {
            made.append(' ').append(look.ask(Call.same(slot, other, false)));
            made.append(' ').append(look.ask(Call.same(slot, other, true)));
        }
    }

    private Run twin() {
        Run made = new Run();
        made.calls.addAll(calls);
        return made;
    }

    private UrlDesk replay() {
        if (calls.size() >= MOST_CALLS) {
            throw new IllegalStateException("a run leaves no call to look with");
        }
        UrlDesk desk = new UrlDesk();
        for (Call call : calls) {
            call.on(desk);
        }
        return desk;
    }

    /** Looks behind the run, on a new object whenever the last one has no call left. */
    private final class Look {
        private UrlDesk desk;
        private int left = 0;

        int ask(Call call) {
            if (left == 0) {
                desk = replay();
                left = MOST_CALLS - calls.size();
            }
            left--;
            return call.on(desk);
        }
    }
}
