/** Promises 12 and 13: pairs and pairAt. */
public final class PairsTest {
    public static void main(String[] args) {
        numbers();
        namesAndValues();
        decoding();
        everyByte();
        wrongPlaces();
        Check.end();
    }

    private static void count(String text, int want) {
        Check.due("pairs of " + text, Desk.of(text).call().pairs(0), want);
    }

    private static void pairs(String query, String want) {
        Check.due("pairs of " + query, Desk.of("http://h?" + query).pairs(0), want);
        Check.due("pairs of " + query + " in q", Desk.of("q:a?" + query + "#x=y&z").pairs(0), want);
    }

    private static void numbers() {
        count("q:a", 0);
        count("q:a?", 0);
        count("q:a?&", 0);
        count("q:a?&&&", 0);
        count("q:a?b", 1);
        count("q:a?=", 1);
        count("q:a?b&c", 2);
        count("q:a?&b&&c&", 2);
        count("q:a&b?c", 1);
        count("q:a?b#c&d", 1);
        count("q:a#b?c&d", 0);
        count("q:?" + "a&".repeat(48), 48);
        count("a", 0);
    }

    private static void namesAndValues() {
        pairs("a=1", "a=1");
        pairs("a", "a=");
        pairs("a=", "a=");
        pairs("=a", "=a");
        pairs("=", "=");
        pairs("a=b=c", "a=b=c");
        pairs("a==", "a==");
        pairs("a=1&b=2&a=3", "a=1|b=2|a=3");
        pairs("&a&&b=&", "a=|b=");
        pairs("?a=?", "?a=?");
        pairs("a;b=c", "a;b=c");
    }

    private static void decoding() {
        pairs("a+b=c+d", "a b=c d");
        pairs("+=+", " = ");
        pairs("%2B=%2b", "+=+");
        pairs("%26%3D=%3d%26", "&===&");
        pairs("%41%5a=%7a", "AZ=z");
        pairs("%=%4", "%=%4");
        pairs("%zz=%4z&%z4", "%zz=%4z|%z4=");
        pairs("%%41=%4%31", "%A=%41");
        pairs("%4=1", "%4=1");
        pairs("a%4&1", "a%4=|1=");
        pairs("%00=%ff", "\0=\u00ff");
        pairs("\u00e9", "\u00c3\u00a9=");
        pairs("'<>\"", "'<>\"=");
        pairs("%2541", "%41=");
    }

    private static void everyByte() {
        for (int b = 0; b < 256; b++) {
            Desk desk = Desk.of(String.format("q:?%%%02x=%%%02X", b, b));
            Check.due("small digits of " + b, desk.call().pairAt(0, 0, false, 0), b);
            Check.due("big digits of " + b, desk.call().pairAt(0, 0, true, 0), b);
            Check.due("behind " + b, desk.call().pairAt(0, 0, true, 1), UrlDesk.NONE);
        }
    }

    private static void wrongPlaces() {
        Desk desk = Desk.of("q:?ab=c&d");
        Check.due("the second byte", desk.call().pairAt(0, 0, false, 1), (int) 'b');
        Check.due("behind a name", desk.call().pairAt(0, 0, false, 2), UrlDesk.NONE);
        Check.due("behind a value", desk.call().pairAt(0, 0, true, 1), UrlDesk.NONE);
        Check.due("no value", desk.call().pairAt(0, 1, true, 0), UrlDesk.NONE);
        Check.due("the second pair", desk.call().pairAt(0, 1, false, 0), (int) 'd');
        Check.due("behind the second pair's name", desk.call().pairAt(0, 1, false, 1), UrlDesk.NONE);
        for (int wrong : new int[] {-1, 2, Integer.MIN_VALUE, Integer.MAX_VALUE}) {
            Check.due("pair " + wrong, desk.call().pairAt(0, wrong, false, 0), UrlDesk.NONE);
            Check.due("byte " + wrong, desk.call().pairAt(0, 0, false, wrong), UrlDesk.NONE);
        }
        for (int wrong : new int[] {-1, 1, 4, Integer.MIN_VALUE, Integer.MAX_VALUE}) {
            Check.due("pairs of slot " + wrong, desk.call().pairs(wrong), 0);
            Check.due("pairAt of slot " + wrong, desk.call().pairAt(wrong, 0, false, 0), UrlDesk.NONE);
        }
        desk.read("q:a", 1);
        Check.due("pairAt without query", desk.call().pairAt(1, 0, false, 0), UrlDesk.NONE);
    }
}
