/** Promises 1 to 3: a new object, type and cut. */
public final class DraftTest {
    public static void main(String[] args) {
        newObjectHasNoUrls();
        newObjectHasAnEmptyDraft();
        typeTakesOneTo255();
        typeRefusesTheHundredAndFirst();
        cutKeepsTheFirst();
        cutRefusesWrongNumbers();
        Check.end();
    }

    private static void newObjectHasNoUrls() {
        Desk desk = new Desk();
        for (int slot = -1; slot <= 4; slot++) {
            Check.due("length of a new slot", desk.call().length(slot, 0), UrlDesk.BAD);
            Check.due("charAt of a new slot", desk.call().charAt(slot, 0, 0), UrlDesk.NONE);
            Check.due("port of a new slot", desk.call().port(slot), UrlDesk.BAD);
            Check.due("segments of a new slot", desk.call().segments(slot), UrlDesk.BAD);
            Check.due("pairs of a new slot", desk.call().pairs(slot), 0);
            Check.due("pairAt of a new slot", desk.call().pairAt(slot, 0, false, 0), UrlDesk.NONE);
            Check.due("same of a new slot", desk.call().same(slot, slot, false), false);
            Check.due("copy of a new slot", desk.call().copy(slot, 0), false);
            Check.due("set of a new slot", desk.call().set(slot, Desk.QUERY), false);
        }
    }

    private static void newObjectHasAnEmptyDraft() {
        Desk desk = new Desk();
        Check.due("cut(1) of a new draft", desk.call().cut(1), false);
        Check.due("cut(0) of a new draft", desk.call().cut(0), true);
        Check.due("read of a new draft", desk.call().read(0, -1), false);
    }

    private static void typeTakesOneTo255() {
        Desk desk = new Desk();
        Check.due("type 0", desk.call().type((char) 0), false);
        Check.due("type 256", desk.call().type((char) 256), false);
        Check.due("type 65535", desk.call().type((char) 65535), false);
        Check.due("cut(1) after refused ones", desk.call().cut(1), false);
        Check.due("type 1", desk.call().type((char) 1), true);
        Check.due("type 255", desk.call().type((char) 255), true);
        Check.due("cut(2) after two", desk.call().cut(2), true);
        Check.due("cut(3) after two", desk.call().cut(3), false);
    }

    private static void typeRefusesTheHundredAndFirst() {
        Desk desk = new Desk();
        desk.draft("q:" + "a".repeat(97));
        Check.due("type the hundredth", desk.call().type('b'), true);
        Check.due("type one more", desk.call().type('c'), false);
        Check.due("read of a full draft", desk.call().read(0, -1), true);
        Check.due("text of a full draft", desk.text(0), "q:" + "a".repeat(97) + "b");
        Check.due("cut(99)", desk.call().cut(99), true);
        Check.due("type again", desk.call().type('d'), true);
        Check.due("type once too often", desk.call().type('d'), false);
    }

    private static void cutKeepsTheFirst() {
        Desk desk = new Desk();
        desk.draft("q:abcdef");
        Check.due("cut(5)", desk.call().cut(5), true);
        desk.call().read(0, -1);
        Check.due("text after cut", desk.text(0), "q:abc");
        Check.due("cut to what it has", desk.call().cut(5), true);
        Check.due("type behind the cut", desk.call().type('z'), true);
        desk.call().read(0, -1);
        Check.due("text after type", desk.text(0), "q:abcz");
    }

    private static void cutRefusesWrongNumbers() {
        Desk desk = new Desk();
        desk.draft("q:a");
        Check.due("cut(-1)", desk.call().cut(-1), false);
        Check.due("cut(lowest)", desk.call().cut(Integer.MIN_VALUE), false);
        Check.due("cut(4)", desk.call().cut(4), false);
        Check.due("cut(highest)", desk.call().cut(Integer.MAX_VALUE), false);
        desk.call().read(0, -1);
        Check.due("text after refused cuts", desk.text(0), "q:a");
    }
}
