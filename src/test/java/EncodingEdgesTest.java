/** The boundary cases of encoding, of each set, and of decoding. */
public final class EncodingEdgesTest {
    // Every printable character that is neither a letter nor a digit.
    private static final String SIGNS = " !\"#$%&'()*+,-./:;<=>?@[\\]^_`{|}~";
    private static final String LETTERS_AND_DIGITS = "09AZaz";
    private static final String BELOW = "\u0001\u0008\u000b\u000c\u000e\u001f";
    private static final String BELOW_ENCODED = "%01%08%0B%0C%0E%1F";

    public static void main(String[] args) {
        Edge.test("its BYTES are itself when it is below 128, else the two bytes 192 + c / 64 (whole) and 128 + c % 64",
                EncodingEdgesTest::bytes);
        Edge.test("a byte that is in the set is written as % and two hexadecimal digits (0 .. 9, A .. F),"
                + " any other as itself", EncodingEdgesTest::digits);
        Edge.test("CONTROL: below 32 and above 126.", EncodingEdgesTest::control);
        Edge.test("FRAGMENT: control, and space \" < > and the back quote (96).", EncodingEdgesTest::fragment);
        Edge.test("QUERY: control, and space \" # < >.", EncodingEdgesTest::query);
        Edge.test("SPECIAL QUERY: query, and '.", EncodingEdgesTest::specialQuery);
        Edge.test("PATH: query, and ? ^ { } and the back quote.", EncodingEdgesTest::path);
        Edge.test("USERINFO: path, and / : ; = @ [ \\ ] |.", EncodingEdgesTest::userinfo);
        Edge.test("every % with two hexadecimal digits (also a .. f) behind it becomes the byte they make,"
                + " any other character its bytes", EncodingEdgesTest::decoding);
        Check.end();
    }

    private static void username(String draft, String want) {
        Edge.sets("q://h", draft, Desk.USERNAME, "q://" + want + "@h");
    }

    private static void bytes() {
        username("~", "~");
        username("\u007f", "%7F");
        username("\u0080", "%C2%80");
        username("\u00bf", "%C2%BF");
        username("\u00c0", "%C3%80");
        username("\u00ff", "%C3%BF");
        Edge.reads("q:\u007f\u0080\u00bf\u00c0\u00ffx", "q:%7F%C2%80%C2%BF%C3%80%C3%BFx");
        Edge.reads("q:/\u007f\u0080\u00bf\u00c0\u00ff", "q:/%7F%C2%80%C2%BF%C3%80%C3%BF");
        Edge.reads("q:a?\u007f\u0080#\u00bf\u00c0\u00ff", "q:a?%7F%C2%80#%C2%BF%C3%80%C3%BF");
    }

    private static void digits() {
        username("\u0001", "%01");
        username("\u0009", "%09");
        username("\n", "%0A");
        username("\u000f", "%0F");
        username("\u0010", "%10");
        username("\u001f", "%1F");
        username("/", "%2F");
        username(":", "%3A");
        username("\u009f\u00a0\u00af\u00b0", "%C2%9F%C2%A0%C2%AF%C2%B0");
        username("%", "%");
        username("%0a%G", "%0a%G");
    }

    /** What the set leaves as it is stays when it is encoded a second time, taken from a base. */
    private static void takenOver(String base, String want) {
        Edge.reads(base, "#", want + "#");
    }

    private static void control() {
        String kept = " !\"$%&'()*+,-./:;<=>@[\\]^_`{|}~";
        Edge.reads("q:x" + kept + LETTERS_AND_DIGITS, "q:x" + kept + LETTERS_AND_DIGITS);
        Edge.reads("q:x" + BELOW + " ~\u007f\u0080y", "q:x" + BELOW_ENCODED + " ~%7F%C2%80y");
        Edge.reads("q://x" + BELOW + "!~\u007f\u0080y", "q://x" + BELOW_ENCODED + "!~%7F%C2%80y");
        takenOver("q:x\u001f !~\u007fy", "q:x%1F !~%7Fy");
    }

    private static void fragment() {
        String want = "%20!%22#$%&'()*+,-./:;%3C=%3E?@[\\]^_%60{|}~";
        Edge.reads("q:a#" + SIGNS + LETTERS_AND_DIGITS, "q:a#" + want + LETTERS_AND_DIGITS);
        Edge.reads("http://h#" + SIGNS, "http://h/#" + want);
        Edge.sets("q:a", SIGNS, Desk.FRAGMENT, "q:a#" + want);
        Edge.sets("http://h", SIGNS, Desk.FRAGMENT, "http://h/#" + want);
        Edge.reads("q:a#" + BELOW + "~\u007fy", "q:a#" + BELOW_ENCODED + "~%7Fy");
    }

    private static void query() {
        String want = "%20!%22%23$%&'()*+,-./:;%3C=%3E?@[\\]^_`{|}~";
        Edge.sets("q:a", SIGNS + LETTERS_AND_DIGITS, Desk.QUERY, "q:a?" + want + LETTERS_AND_DIGITS);
        Edge.sets("file://h", SIGNS, Desk.QUERY, "file://h?" + want);
        Edge.reads("q:a?" + SIGNS.replace("#", ""), "q:a?" + want.replace("%23", ""));
        Edge.reads("q:a?x" + BELOW + "~\u007fy", "q:a?x" + BELOW_ENCODED + "~%7Fy");
        takenOver("q:a?" + SIGNS.replace("#", ""), "q:a?" + want.replace("%23", ""));
    }

    private static void specialQuery() {
        String want = "%20!%22%23$%&%27()*+,-./:;%3C=%3E?@[\\]^_`{|}~";
        for (String scheme : new String[] {"ftp", "http", "https", "ws", "wss"}) {
            Edge.sets(scheme + "://h", SIGNS, Desk.QUERY, scheme + "://h/?" + want);
            Edge.reads(scheme + "://h?&'(", scheme + "://h/?&%27(");
            Edge.reads(scheme + "://h", "?&'(", scheme + "://h/?&%27(");
        }
        Edge.reads("http://h?x" + BELOW + "~\u007fy", "http://h/?x" + BELOW_ENCODED + "~%7Fy");
        takenOver("http://h?" + SIGNS.replace("#", ""), "http://h/?" + want.replace("%23", ""));
    }

    private static void path() {
        String signs = " !\"$%&'()*+,-.:;<=>@[]^_`{|}~";
        String want = "%20!%22$%&'()*+,-.:;%3C=%3E@[]%5E_%60%7B|%7D~";
        Edge.reads("q:/x" + signs + "\\" + LETTERS_AND_DIGITS, "q:/x" + want + "\\" + LETTERS_AND_DIGITS);
        Edge.reads("http://h/x" + signs + LETTERS_AND_DIGITS, "http://h/x" + want + LETTERS_AND_DIGITS);
        Edge.reads("q:/x" + BELOW + "~\u007fy", "q:/x" + BELOW_ENCODED + "~%7Fy");
        takenOver("q:/x" + signs + "\\", "q:/x" + want + "\\");
    }

    private static void userinfo() {
        String want = "%20!%22%23$%&'()*+,-.%2F%3A%3B%3C%3D%3E%3F%40%5B%5C%5D%5E_%60%7B%7C%7D~";
        username(SIGNS + LETTERS_AND_DIGITS, want + LETTERS_AND_DIGITS);
        Edge.sets("http://h", SIGNS, Desk.USERNAME, "http://" + want + "@h/");
        Edge.sets("http://h", SIGNS, Desk.PASSWORD, "http://:" + want + "@h/");
        username(BELOW + "~\u007f", BELOW_ENCODED + "~%7F");
        Edge.reads("q://;=@|[\\]^@h", "q://%3B%3D%40%7C%5B%5C%5D%5E@h");
        takenOver("q://;=@|[\\]^@h", "q://%3B%3D%40%7C%5B%5C%5D%5E@h");
    }

    /** The bytes of the value of a query's only pair. */
    private static void value(String text, int... want) {
        Run run = Run.busy().read("q:a?x=" + text, 1, -1);
        for (int i = 0; i < want.length; i++) {
            run.answers(Call.pairAt(1, 0, true, i), want[i]);
        }
        run.answers(Call.pairAt(1, 0, true, want.length), UrlDesk.NONE);
    }

    private static void decoding() {
        value("%00", 0);
        value("%09%0a%0A", 9, 10, 10);
        value("%0f%0F%f0%F0", 15, 15, 240, 240);
        value("%7F%80", 127, 128);
        value("%ff%FF%fF", 255, 255, 255);
        value("%", '%');
        value("%4", '%', '4');
        value("%%41", '%', 'A');
        value("%4%41", '%', '4', 'A');
        value("%2541", '%', '4', '1');
        for (char c : "/:@G`g".toCharArray()) {
            value("%" + c + "0", '%', c, '0');
            value("%0" + c, '%', '0', c);
        }
        value("\u00e9", 0xc3, 0xa9);
        value("~", '~');
        Edge.reads("http://%41%5a%5A", "http://azz/");
        Edge.reads("http://%2D", "http://-/");
        for (String wrong : new String[] {"a%", "a%4", "a%4g", "a%g4", "a%4G", "a%`1", "a%1`", "a%2541"}) {
            Edge.fails("http://" + wrong);
        }
    }
}
