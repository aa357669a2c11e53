/** Promises 4 and 5: no URL has a text of more than 600 characters. */
public final class LimitTest {
    // Encoded, it takes six characters.
    private static final String WIDE = "\u00e9";

    public static void main(String[] args) {
        readingUpToTheLimit();
        readingBeyondTheLimit();
        settingUpToTheLimit();
        longWaysThatEndShort();
        Check.end();
    }

    /** A desk whose slot 0 has a URL of so many characters, from 592 up, with a list of one segment. */
    private static Desk longOne(int size) {
        Desk desk = Desk.of("q:/" + WIDE.repeat(90) + "a".repeat(7));
        Check.due("length before", desk.call().length(0, 0), 550);
        Check.due("set", desk.set("b".repeat(size - 551), 0, Desk.QUERY), true);
        Check.due("length", desk.call().length(0, 0), size);
        return desk;
    }

    private static void readingUpToTheLimit() {
        Desk desk = new Desk();
        Check.due("read 590", desk.read("q:" + WIDE.repeat(98), 0), true);
        Check.due("length", desk.call().length(0, 0), 590);
        Check.due("its last", desk.call().charAt(0, 0, 589), (int) '9');
        Check.due("read 600", desk.read("#" + WIDE + "abc", 1, 0), true);
        Check.due("length", desk.call().length(1, 0), 600);
        Check.due("its last", desk.call().charAt(1, 0, 599), (int) 'c');
        Check.due("read 601", desk.read("#" + WIDE + "abcd", 2, 0), false);
        Check.due("nothing there", desk.call().length(2, 0), UrlDesk.BAD);
        Check.due("read 601 over 600", desk.read("#" + WIDE + "abcd", 1, 0), false);
        Check.due("length", desk.call().length(1, 0), 600);
    }

    private static void readingBeyondTheLimit() {
        Desk desk = longOne(600);
        Check.due("with an empty fragment", desk.read("#", 1, 0), false);
        Check.due("with nothing", desk.read("", 1, 0), true);
        Check.due("same", desk.call().same(0, 1, false), true);
        Check.due("with less", desk.read("?", 1, 0), true);
        Check.due("length", desk.call().length(1, 0), 551);
        Check.due("over itself", desk.read("#a", 0, 0), false);
        Check.due("it stays", desk.call().length(0, 0), 600);
        Check.due("its last", desk.call().charAt(0, 0, 599), (int) 'b');
    }

    private static void settingUpToTheLimit() {
        Desk desk = longOne(598);
        Check.due("set 601", desk.set("ab", 0, Desk.FRAGMENT), false);
        Check.due("no fragment", desk.call().length(0, Desk.FRAGMENT), UrlDesk.NONE);
        Check.due("set 600", desk.set("a", 0, Desk.FRAGMENT), true);
        Check.due("length", desk.call().length(0, 0), 600);
        Check.due("the fragment", desk.part(0, Desk.FRAGMENT), "a");
        Check.due("set 600 again", desk.set("#b", 0, Desk.FRAGMENT), true);
        Check.due("the other fragment", desk.part(0, Desk.FRAGMENT), "b");
        Check.due("a far longer one", desk.set(WIDE.repeat(30), 0, Desk.FRAGMENT), false);
        Check.due("the fragment stays", desk.part(0, Desk.FRAGMENT), "b");

        Desk other = Desk.of("http://h");
        Check.due("a username of 588", other.set(WIDE.repeat(98), 0, Desk.USERNAME), true);
        Check.due("length", other.call().length(0, 0), 598);
        Check.due("a password too many", other.set("ab", 0, Desk.PASSWORD), false);
        Check.due("the password", other.call().length(0, Desk.PASSWORD), 0);
        Check.due("a port too many", other.set("88", 0, Desk.PORT), false);
        Check.due("the port", other.call().port(0), UrlDesk.NONE);
        Check.due("a port of one digit", other.set("8", 0, Desk.PORT), true);
        Check.due("length", other.call().length(0, 0), 600);
    }

    private static void longWaysThatEndShort() {
        Desk desk = Desk.of("q:/" + WIDE.repeat(90) + "/b");
        Check.due("too long on the way", desk.read(WIDE.repeat(80) + "/../../c", 1, 0), true);
        Check.due("short in the end", desk.text(1), "q:/c");
        Check.due("too long in the end", desk.read(WIDE.repeat(80), 2, 0), false);
        Check.due("long, but without the base's last", Desk.of("q:/" + WIDE.repeat(90)).read(WIDE.repeat(99), 1, 0), true);
    }
}
