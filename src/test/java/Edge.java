/** What the tests of the document's boundary cases are written with. */
final class Edge {
    static final int LOWEST = Integer.MIN_VALUE;
    static final int HIGHEST = Integer.MAX_VALUE;
    // Encoded by any set, it takes six characters.
    static final String WIDE = "\u00e9";

    private Edge() {
    }

    /** A test with the sentence of the document that it holds to. */
    static void test(String sentence, Runnable test) {
        int before = Check.made();
        Check.under(sentence);
        test.run();
        Check.due("a test that looks at something", Check.made() > before, true);
    }

    /** Reading the text alone gives a URL with this text, over another URL and where there was none. */
    static void reads(String text, String want) {
        Run run = Run.busy().draft(text).takes(Call.read(1, -1)).takes(Call.read(3, -1));
        Check.due("the text of " + told(text), run.text(1), want);
        Check.due("the text of " + told(text) + " in an empty slot", run.text(3), want);
    }

    /** Reading the text alone fails, and changes nothing. */
    static void fails(String text) {
        Check.under(text, () -> Run.busy().draft(text).refuses(Call.read(1, -1)).refuses(Call.read(3, -1)));
    }

    /** Reading the text with a base gives a URL with this text, also in the base's own slot. */
    static void reads(String base, String text, String want) {
        Run run = Run.busy().read(base, 0, -1);
        Check.due("the base " + told(base) + " is there", run.text(0) != null, true);
        run.draft(text).takes(Call.read(1, 0)).takes(Call.read(0, 0));
        Check.due("the text of " + told(text) + " with " + told(base), run.text(1), want);
        Check.due("the text of " + told(text) + " over " + told(base), run.text(0), want);
    }

    /** Reading the text with a base fails, and changes nothing. */
    static void fails(String base, String text) {
        Run run = Run.busy().read(base, 0, -1);
        Check.due("the base " + told(base) + " is there", run.text(0) != null, true);
        Check.under(text, () -> run.draft(text).refuses(Call.read(1, 0)).refuses(Call.read(0, 0)));
    }

    /** A part of what is read alone; null when it has none. */
    static void has(String text, int part, String want) {
        Run run = Run.busy().draft(text).takes(Call.read(1, -1));
        Check.due("part " + part + " of " + told(text), run.part(1, part), want);
    }

    /** Setting a part of what was read gives a URL with this text. */
    static void sets(String text, String draft, int part, String want) {
        Run run = Run.busy().read(text, 1, -1).draft(draft).takes(Call.set(1, part));
        Check.due("the text of " + told(text) + " with " + told(draft) + " set", run.text(1), want);
    }

    /** Setting a part of what was read is refused, and changes nothing. */
    static void refuses(String text, String draft, int part) {
        Run run = Run.busy().read(text, 1, -1);
        Check.due(told(text) + " is there", run.text(1) != null, true);
        Check.under(draft, () -> run.draft(draft).refuses(Call.set(1, part)));
    }

    /** A text with what can't be printed as codes. */
    static String told(String text) {
        StringBuilder made = new StringBuilder();
        for (char c : text.toCharArray()) {
            if (c > 32 && c < 127) {
                made.append(c);
            } else {
                made.append('{').append((int) c).append('}');
            }
        }
        return made.toString();
    }
}
