/** An UrlDesk that is spoken to in whole texts, and that is never called more often than promised. */
final class Desk {
    static final int TEXT = 0;
    static final int SCHEME = 1;
    static final int USERNAME = 2;
    static final int PASSWORD = 3;
    static final int HOST = 4;
    static final int PORT = 5;
    static final int PATH = 6;
    static final int QUERY = 7;
    static final int FRAGMENT = 8;

    private static final int CALLS = 512;

    private final UrlDesk desk = new UrlDesk();
    private int calls = 0;

    /** A desk that has read a text into slot 0. */
    static Desk of(String text) {
        Desk made = new Desk();
        made.read(text, 0);
        return made;
    }

    /** Slot 0 gets the base and slot 1 the text read with it. */
    static Desk of(String base, String text) {
        Desk made = of(base);
        made.read(text, 1, 0);
        return made;
    }

    /** The text of an address that was read alone, or null when reading it fails. */
    static String readAlone(String text) {
        return of(text).part(0, TEXT);
    }

    /** The text of an address that was read with a base, or null when reading it fails. */
    static String readWith(String base, String text) {
        return of(base, text).part(1, TEXT);
    }

    /** The host of an address, or null when reading it fails. */
    static String hostOf(String text) {
        return of(text).part(0, HOST);
    }

    UrlDesk call() {
        calls++;
        if (calls > CALLS) {
            throw new IllegalStateException("a test makes more calls than an object promises");
        }
        return desk;
    }

    int callsLeft() {
        return CALLS - calls;
    }

    void draft(String text) {
        Check.due("cut(0)", call().cut(0), true);
        for (int i = 0; i < text.length(); i++) {
            Check.due("type " + (int) text.charAt(i), call().type(text.charAt(i)), true);
        }
    }

    boolean read(String text, int slot) {
        return read(text, slot, -1);
    }

    boolean read(String text, int slot, int base) {
        draft(text);
        return call().read(slot, base);
    }

    boolean set(String text, int slot, int part) {
        draft(text);
        return call().set(slot, part);
    }

    /** A part, read character by character; null when there is none. */
    String part(int slot, int part) {
        int length = call().length(slot, part);
        if (length < 0) {
            Check.due("charAt(" + slot + ", " + part + ", 0)", call().charAt(slot, part, 0), UrlDesk.NONE);
            return null;
        }
        StringBuilder found = new StringBuilder();
        for (int i = 0; i < length; i++) {
            found.append((char) call().charAt(slot, part, i));
        }
        return found.toString();
    }

    String text(int slot) {
        return part(slot, TEXT);
    }

    /** All pairs of a query as name=value, with a bar between. */
    String pairs(int slot) {
        StringBuilder found = new StringBuilder();
        int count = call().pairs(slot);
        for (int k = 0; k < count; k++) {
            found.append(k == 0 ? "" : "|").append(side(slot, k, false)).append('=').append(side(slot, k, true));
        }
        return found.toString();
    }

    private String side(int slot, int k, boolean value) {
        StringBuilder found = new StringBuilder();
        for (int i = 0; callsLeft() > 0; i++) {
            int b = call().pairAt(slot, k, value, i);
            if (b < 0) {
                break;
            }
            found.append((char) b);
        }
        return found.toString();
    }
}
