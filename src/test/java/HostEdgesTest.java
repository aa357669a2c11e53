/** The boundary cases of a host text: domain, four numbers, eight pieces and free text. */
public final class HostEdgesTest {
    public static void main(String[] args) {
        Edge.test("It begins with [ : it must end with ] and have between them the EIGHT PIECES", HostEdgesTest::brackets);
        Edge.test("when the scheme is not special: it fails if there is one of the characters 0 9 10 13 space # / : <"
                + " > ? @ [ \\ ] ^ |, else it is the text encoded by CONTROL", HostEdgesTest::freeText);
        Edge.test("Else the text is decoded and made of small letters", HostEdgesTest::domain);
        Edge.test("it fails if there is one of the characters named, or one up to 32, % or one above 126 in it,"
                + " or nothing is left", HostEdgesTest::refusedDomain);
        Edge.test("When it ENDS IN A NUMBER, it must be FOUR NUMBERS, and the host is these in decimal with points"
                + " between. Otherwise it is the host.", HostEdgesTest::mustBeFourNumbers);
        Edge.test("It is cut at its points into parts; an empty last one is left out if there are two or more.",
                HostEdgesTest::emptyLastPart);
        Edge.test("It ENDS IN A NUMBER when the last part then has a character and digits alone, or is a NUMBER.",
                HostEdgesTest::endsInANumber);
        Edge.test("A NUMBER: 0x and perhaps hexadecimal digits (without: 0)", HostEdgesTest::hexadecimal);
        Edge.test("or 0 and one or more digits 0 .. 7", HostEdgesTest::octal);
        Edge.test("or one or more decimal digits without a 0 at the beginning, or 0 alone", HostEdgesTest::decimal);
        Edge.test("FOUR NUMBERS are up to four parts, all NUMBERS", HostEdgesTest::upToFourParts);
        Edge.test("all but the last below 256", HostEdgesTest::allButTheLast);
        Edge.test("the last, of n parts, below 256 to the power of 5 - n", HostEdgesTest::theLast);
        Edge.test("the last one gives the last 5 - n of the four, the highest byte first", HostEdgesTest::highestFirst);
        Edge.test("pieces of one to four hexadecimal digits with colons between, eight of them", HostEdgesTest::eight);
        Edge.test("or fewer than eight with one :: in place of one or more pieces 0 (it may stand at the beginning,"
                + " at the end, or alone)", HostEdgesTest::fewerThanEight);
        Edge.test("Instead of the last two pieces there may be four numbers of 0 to 255 with points between,"
                + " in decimal without needless zeros.", HostEdgesTest::numbersAtTheEnd);
        Edge.test("pieces in hexadecimal with small letters and without needless zeros, colons between",
                HostEdgesTest::writtenPieces);
        Edge.test("the longest row of two or more pieces 0, the first of several, is left out and stands as ::",
                HostEdgesTest::leftOut);
        Check.end();
    }

    private static void special(String host, String want) {
        for (String scheme : new String[] {"http", "wss"}) {
            if (want == null) {
                Edge.fails(scheme + "://" + host);
                Edge.fails(scheme + "://u@" + host + ":8/a");
            } else {
                Edge.has(scheme + "://" + host, Desk.HOST, want);
                Edge.has(scheme + "://u@" + host + ":8/a", Desk.HOST, want);
            }
        }
    }

    private static void free(String host, String want) {
        if (want == null) {
            Edge.fails("q://" + host);
            Edge.fails("q://u@" + host + ":8/a");
        } else {
            Edge.has("q://" + host, Desk.HOST, want);
            Edge.has("q://u@" + host + ":8/a", Desk.HOST, want);
        }
    }

    private static void pieces(String pieces, String want) {
        String host = want == null ? null : "[" + want + "]";
        special("[" + pieces + "]", host);
        free("[" + pieces + "]", host);
    }

    private static void brackets() {
        pieces("::", "::");
        pieces("", null);
        pieces("h", null);
        for (String host : new String[] {"[", "[::1", "[::1]a", "[::1].", "[[::1]", "[::1]]", "[::1] ", "[ ::1]", "a[::1]", "::1]", "]"}) {
            Edge.fails("http://" + host + "/");
            Edge.fails("q://" + host + "/");
        }
        special("%5B::1%5D", null);
        special("%5B::1]", null);
        free("%5B", "%5B");
    }

    private static void freeText() {
        for (char c : " <>[\\]^|".toCharArray()) {
            free("a" + c + "b", null);
            free(c + "a", null);
        }
        for (char c : " <[\\]^|".toCharArray()) {
            Edge.fails("q://a" + c + "/");
        }
        free("a>", null);
        // What ends a host or is taken out before never stands in one.
        Edge.reads("q://a\tb\nc\rd", "q://abcd");
        Edge.has("q://a#b", Desk.HOST, "a");
        Edge.has("q://a/b", Desk.HOST, "a");
        Edge.has("q://a?b", Desk.HOST, "a");
        Edge.has("q://a@b", Desk.HOST, "b");
        Edge.fails("q://a:b");
        free("!\"$%&'()*+,-.;=_`{}~09AZaz", "!\"$%&'()*+,-.;=_`{}~09AZaz");
        free("\u0001a\u0008\u000b\u000c\u000e\u001f!~\u007f\u0080\u00ff", "%01a%08%0B%0C%0E%1F!~%7F%C2%80%C3%BF");
        free("%00%20%23%41", "%00%20%23%41");
        free("1.2.3.4.5", "1.2.3.4.5");
        free("09", "09");
        free("256.256.256.256", "256.256.256.256");
        free(".", ".");
        free("0", "0");
        free("9", "9");
        free("10", "10");
        free("13", "13");
    }

    private static void domain() {
        special("A", "a");
        special("Z", "z");
        special("azAZ", "azaz");
        special("%41%5A%61%7A", "azaz");
        special("%2e%2E", "..");
        special("-._~!$&'()*+,;=\"`{}", "-._~!$&'()*+,;=\"`{}");
        special("%2D%5F%7B%7d", "-_{}");
        special("a%30", "a0");
    }

    private static void refusedDomain() {
        for (int c : new int[] {0, 9, 10, 13, ' ', '#', '/', ':', '<', '>', '?', '@', '[', '\\', ']', '^', '|'}) {
            special(String.format("a%%%02Xb", c), null);
            special(String.format("%%%02x", c), null);
        }
        for (char c : " <>[]^|".toCharArray()) {
            special("a" + c + "b", null);
        }
        special("%01", null);
        special("a%1F", null);
        special("a%20", null);
        special("a%21", "a!");
        special("a\u0001b", null);
        special("a\u001fb", null);
        special("a!b", "a!b");
        special("a%7E", "a~");
        special("a~", "a~");
        special("a%7F", null);
        special("a\u007f", null);
        special("a%80", null);
        special("a\u0080", null);
        special("a%FF", null);
        special("a\u00ff", null);
        special("%C3%A9", null);
        special("a%25", null);
        special("a%", null);
        special("%", null);
        Edge.fails("http://");
        Edge.fails("http://u@");
    }

    private static void mustBeFourNumbers() {
        special("1.2.3.4", "1.2.3.4");
        special("a.1", null);
        special("1.a", "1.a");
        special("a.b.c.1", null);
        special("1.2.3.4.5", null);
        special("1.2.3.4.a", "1.2.3.4.a");
        special("-1", "-1");
        special("1.-1", "1.-1");
        special("-1.1", null);
        special("%31.%32", "1.0.0.2");
    }

    private static void emptyLastPart() {
        special("1.2.3.4.", "1.2.3.4");
        special("1.", "0.0.0.1");
        special("1..", "1..");
        special("1...", "1...");
        special(".", ".");
        special("..", "..");
        special("a.", "a.");
        special("a..", "a..");
        special("1.2.3.4.5.", null);
        special("a.1.", null);
        special("1..2", null);
        special("1..2.", null);
        special(".1", null);
        special(".1.", null);
    }

    private static void endsInANumber() {
        special("a.0", null);
        special("a.9", null);
        special("a.09", null);
        special("a.08.", null);
        special("a.0x", null);
        special("a.0xf", null);
        special("a.0XF", null);
        special("a.99999999999999999999", null);
        special("08", null);
        special("a.0xg", "a.0xg");
        special("a.0x1g", "a.0x1g");
        special("a.x1", "a.x1");
        special("a.1x", "a.1x");
        special("a.1e", "a.1e");
        special("a.-1", "a.-1");
        special("a.1-", "a.1-");
        special("a.", "a.");
        special("1a", "1a");
        special("a1", "a1");
        special("00x1", "00x1");
    }

    private static void hexadecimal() {
        special("0x", "0.0.0.0");
        special("0X", "0.0.0.0");
        special("0x0", "0.0.0.0");
        special("0x9", "0.0.0.9");
        special("0xa", "0.0.0.10");
        special("0xF", "0.0.0.15");
        special("0xAf", "0.0.0.175");
        special("0xg", "0xg");
        special("0x`", "0x`");
        special("0x1.0x", "1.0.0.0");
        special("0x.0x.0x.0x", "0.0.0.0");
        special("0xg.1", null);
        special("0xffffffff", "255.255.255.255");
        special("0x" + "0".repeat(70) + "ff", "0.0.0.255");
        special("0x100000000", null);
        special("0x10000000000000001", null);
        special("x", "x");
        special("0x0x", "0x0x");
    }

    private static void octal() {
        special("00", "0.0.0.0");
        special("01", "0.0.0.1");
        special("07", "0.0.0.7");
        special("010", "0.0.0.8");
        special("0377.0377.0377.0377", "255.255.255.255");
        special("0400.1", null);
        special("08", null);
        special("09", null);
        special("018", null);
        special("081", null);
        special("08.1", null);
        special("037777777777", "255.255.255.255");
        special("040000000000", null);
        special("0" + "0".repeat(70) + "17", "0.0.0.15");
        special("02000000000000000000001", null);
    }

    private static void decimal() {
        special("0", "0.0.0.0");
        special("1", "0.0.0.1");
        special("9", "0.0.0.9");
        special("10", "0.0.0.10");
        special("19", "0.0.0.19");
        special("100", "0.0.0.100");
        special("0.0.0.0", "0.0.0.0");
        special("1a.1", null);
        special("a1.1", null);
        special("+1.1", null);
    }

    private static void upToFourParts() {
        special("1", "0.0.0.1");
        special("1.2", "1.0.0.2");
        special("1.2.3", "1.2.0.3");
        special("1.2.3.4", "1.2.3.4");
        special("1.2.3.4.5", null);
        special("0.0.0.0.0", null);
        special("1.2.3.4.5.6", null);
        special("1.2.3.4.", "1.2.3.4");
        for (String wrong : new String[] {"a", "", "08", "0xg", "1a", "-1"}) {
            special(wrong + ".2.3.4", null);
            special("1." + wrong + ".3.4", null);
            special("1.2." + wrong + ".4", null);
        }
        special("1.0x2.03.4", "1.2.3.4");
    }

    private static void allButTheLast() {
        special("255.1", "255.0.0.1");
        special("256.1", null);
        special("255.255.1", "255.255.0.1");
        special("256.255.1", null);
        special("255.256.1", null);
        special("255.255.255.1", "255.255.255.1");
        special("256.255.255.1", null);
        special("255.256.255.1", null);
        special("255.255.256.1", null);
        special("0xff.1", "255.0.0.1");
        special("0x100.1", null);
        special("0377.1", "255.0.0.1");
        special("0400.1", null);
        special("257.1", null);
        special("4294967297.1", null);
        special("18446744073709551617.1", null);
    }

    private static void theLast() {
        special("4294967295", "255.255.255.255");
        special("4294967296", null);
        special("1.16777215", "1.255.255.255");
        special("1.16777216", null);
        special("1.2.65535", "1.2.255.255");
        special("1.2.65536", null);
        special("1.2.3.255", "1.2.3.255");
        special("1.2.3.256", null);
        special("255.16777215", "255.255.255.255");
        special("0.0.0.0", "0.0.0.0");
        // What wraps around in 32 and 64 bits.
        special("4294967297", null);
        special("18446744073709551616", null);
        special("18446744073709551617", null);
        special("1.2.3.4294967300", null);
        special("1.2.3.18446744073709551620", null);
        special("9".repeat(70), null);
    }

    private static void highestFirst() {
        special("16909060", "1.2.3.4");
        special("1.131844", "1.2.3.4");
        special("1.2.772", "1.2.3.4");
        special("16777216", "1.0.0.0");
        special("65536", "0.1.0.0");
        special("256", "0.0.1.0");
        special("255", "0.0.0.255");
        special("1.65536", "1.1.0.0");
        special("1.256", "1.0.1.0");
        special("1.2.256", "1.2.1.0");
        special("2147483648", "128.0.0.0");
        special("0x80000000", "128.0.0.0");
    }

    private static void eight() {
        pieces("1:2:3:4:5:6:7", null);
        pieces("1:2:3:4:5:6:7:8", "1:2:3:4:5:6:7:8");
        pieces("1:2:3:4:5:6:7:8:9", null);
        pieces("1:2:3:4:5:6:7:", null);
        pieces(":1:2:3:4:5:6:7", null);
        pieces("1:2:3:4:5:6:7:8:", null);
        pieces(":1:2:3:4:5:6:7:8", null);
        pieces("1:2:3:4:5:6:7:1234", "1:2:3:4:5:6:7:1234");
        pieces("1:2:3:4:5:6:7:12345", null);
        pieces("1234:2:3:4:5:6:7:8", "1234:2:3:4:5:6:7:8");
        pieces("12345:2:3:4:5:6:7:8", null);
        pieces("00001:2:3:4:5:6:7:8", null);
        pieces("10000:2:3:4:5:6:7:8", null);
        pieces("0:9:a:f:A:F:ffff:FFFF", "0:9:a:f:a:f:ffff:ffff");
        for (char c : "/`gG-.%+ \u00e9".toCharArray()) {
            Edge.fails("q://[1:2:3:4:5:6:7:" + c + "]");
            Edge.fails("q://[1" + c + ":2:3:4:5:6:7:8]");
            Edge.fails("q://[1:2:3:4" + c + "5:6:7:8]");
        }
        pieces("1:2:3:4;5:6:7:8", null);
        pieces("1", null);
        pieces(":", null);
        pieces(":12", null);
        pieces(":12:3:4:5:6:7:8", null);
        pieces(":12:3:4:5:6:7:8:9", null);
        oneAfterAnother();
    }

    /** Pieces that were read before, taken or refused, do not count. */
    private static void oneAfterAnother() {
        Run run = new Run().read("q://[1:2:3:4:5:6:7:8]", 0, -1).read("q://[1:2:3", 1, -1).read("q://[1:2:3]", 1, -1);
        run.read("q://[8:7:6:5:4:3:2:1]", 1, -1).read("q://[9::]", 2, -1).read("q://[1:2:3:4:5]", 3, -1);
        Check.due("the first pieces", run.part(0, Desk.HOST), "[1:2:3:4:5:6:7:8]");
        Check.due("the next pieces", run.part(1, Desk.HOST), "[8:7:6:5:4:3:2:1]");
        Check.due("fewer pieces", run.part(2, Desk.HOST), "[9::]");
        Check.due("too few pieces", run.part(3, Desk.HOST), null);
    }

    private static void fewerThanEight() {
        pieces("::", "::");
        pieces("1::", "1::");
        pieces("::1", "::1");
        pieces("1::2", "1::2");
        pieces("1:2:3:4:5:6::", "1:2:3:4:5:6::");
        pieces("1:2:3:4:5:6:7::", "1:2:3:4:5:6:7:0");
        pieces("1:2:3:4:5:6:7:8::", null);
        pieces("::3:4:5:6:7:8", "::3:4:5:6:7:8");
        pieces("::2:3:4:5:6:7:8", "0:2:3:4:5:6:7:8");
        pieces("::1:2:3:4:5:6:7:8", null);
        pieces("1:2:3::5:6:7:8", "1:2:3:0:5:6:7:8");
        pieces("1:2:3:4::5:6:7:8", null);
        pieces("1::3:4:5:6:7:8", "1:0:3:4:5:6:7:8");
        pieces("1::2::3", null);
        pieces("::1::", null);
        pieces("::::", null);
        pieces(":::", null);
        pieces("1:::2", null);
        pieces(":::1", null);
        pieces("1:::", null);
        pieces(":1::2", null);
        pieces("1::2:", null);
        pieces("::1:", null);
        pieces(":1::", null);
        pieces("::12345", null);
        pieces("12345::", null);
        pieces("::g", null);
    }

    private static void numbersAtTheEnd() {
        pieces("1:2:3:4:5:6:1.2.3.4", "1:2:3:4:5:6:102:304");
        pieces("1:2:3:4:5:1.2.3.4", null);
        pieces("1:2:3:4:5:6:7:1.2.3.4", null);
        pieces("1:2:3:4:5::1.2.3.4", "1:2:3:4:5:0:102:304");
        pieces("1:2:3:4:5:6::1.2.3.4", null);
        pieces("::2:3:4:5:6:1.2.3.4", "0:2:3:4:5:6:102:304");
        pieces("::1:2:3:4:5:6:1.2.3.4", null);
        pieces("::1.2.3.4", "::102:304");
        pieces("1.2.3.4", null);
        pieces("1.2.3.4::", null);
        pieces("::1.2.3.4:5", null);
        pieces("::1.2.3.4:", null);
        pieces("::0.0.0.0", "::");
        pieces("::255.255.255.255", "::ffff:ffff");
        String[] wrong = {"256", "300", "999", "1000", "00", "01", "001", "000", "", "a", "0x1", "-1", "+1", " 1", "4294967297", "65537"};
        for (String number : wrong) {
            pieces("::" + number + ".2.3.4", null);
            pieces("::1." + number + ".3.4", null);
            pieces("::1.2." + number + ".4", null);
            pieces("::1.2.3." + number, null);
        }
        for (String number : new String[] {"0", "9", "10", "99", "100", "199", "200", "249", "250", "255"}) {
            String written = Integer.toHexString(256 + Integer.parseInt(number));
            pieces("::1.1.1." + number, "::101:" + written);
            pieces("::1." + number + ".1.1", "::" + written + ":101");
        }
        pieces("::1.2.3", null);
        pieces("::1.2.3.4.5", null);
        pieces("::1.2.3.4.", null);
        pieces("::.1.2.3.4", null);
        pieces("::1.2:3.4", null);
    }

    private static void writtenPieces() {
        pieces("0001:0010:0100:1000:0abc:0ABC:00fF:F", "1:10:100:1000:abc:abc:ff:f");
        pieces("0:1:0:1:0:1:0:1", "0:1:0:1:0:1:0:1");
        pieces("0000:0001:000:1:00:1:0:1", "0:1:0:1:0:1:0:1");
        pieces("ffff:fff:ff:f:FFFF:FFF:FF:F", "ffff:fff:ff:f:ffff:fff:ff:f");
        pieces("1:2:3:4:5:6:0.0.0.1", "1:2:3:4:5:6:0:1");
    }

    private static void leftOut() {
        pieces("0:1:1:1:1:1:1:1", "0:1:1:1:1:1:1:1");
        pieces("1:1:1:1:1:1:1:0", "1:1:1:1:1:1:1:0");
        pieces("1:1:1:0:1:1:1:1", "1:1:1:0:1:1:1:1");
        pieces("0:0:1:1:1:1:1:1", "::1:1:1:1:1:1");
        pieces("1:1:1:1:1:1:0:0", "1:1:1:1:1:1::");
        pieces("1:1:1:0:0:1:1:1", "1:1:1::1:1:1");
        pieces("0:0:0:0:0:0:0:0", "::");
        pieces("0:0:0:0:0:0:0:1", "::1");
        pieces("1:0:0:0:0:0:0:0", "1::");
        pieces("0:0:1:0:0:1:0:0", "::1:0:0:1:0:0");
        pieces("1:0:0:1:0:0:1:1", "1::1:0:0:1:1");
        pieces("1:0:0:1:0:0:0:1", "1:0:0:1::1");
        pieces("1:0:0:0:1:0:0:1", "1::1:0:0:1");
        pieces("0:0:1:1:1:0:0:0", "0:0:1:1:1::");
        pieces("0:0:0:1:1:0:0:0", "::1:1:0:0:0");
        pieces("0:1:0:0:1:0:0:0", "0:1:0:0:1::");
        pieces("1::1:0:0:0:0:1", "1:0:1::1");
    }
}
