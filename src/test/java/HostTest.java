/** Promise 4: the host of a host text. */
public final class HostTest {
    public static void main(String[] args) {
        domains();
        notEndingInANumber();
        fourNumbers();
        notFourNumbers();
        eightPieces();
        notEightPieces();
        writtenPieces();
        freeTexts();
        oneHostAfterAnother();
        Check.end();
    }

    private static void special(String host, String want) {
        Check.due("host " + host, Desk.hostOf("http://" + host + "/"), want);
        Check.due("host " + host + " of wss", Desk.hostOf("wss://u@" + host + ":8"), want);
    }

    private static void bracketed(String pieces, String want) {
        String host = want == null ? null : "[" + want + "]";
        Check.due("pieces " + pieces, Desk.hostOf("http://[" + pieces + "]/"), host);
        Check.due("pieces " + pieces + " of q", Desk.hostOf("q://u:p@[" + pieces + "]:8"), host);
    }

    private static void domains() {
        special("Ex.ORG", "ex.org");
        special("AZ@az", "az");
        special("a%41%5a%5A", "aazz");
        special("%61%2e%62", "a.b");
        special("a-b_c~!$&'()*+,;={}`\"", "a-b_c~!$&'()*+,;={}`\"");
        special("a%20", null);
        special("a%00", null);
        special("a%1f", null);
        special("a%7f", null);
        special("a%7e", "a~");
        special("a%21", "a!");
        special("a%80", null);
        special("a%c3%a9", null);
        special("\u00e9", null);
        special("\u007f", null);
        special("a\u0001b", null);
        special("a b", null);
        special("a%", null);
        special("a%2", null);
        special("a%4g", null);
        special("a%g4", null);
        special("a%25", null);
        special("a%2541", null);
        special("a%%341", null);
        for (char c : "#/:<>?@[\\]^|\t\n\r".toCharArray()) {
            special(String.format("a%%%02Xb", (int) c), null);
        }
        for (char c : "<>[]^|".toCharArray()) {
            special("a" + c + "b", null);
        }
        special("[a", null);
        special("a]", null);
    }

    private static void notEndingInANumber() {
        special("1.a", "1.a");
        special("a.1b", "a.1b");
        special("1.2.3.4.a", "1.2.3.4.a");
        special("0xg", "0xg");
        special("a.0xg", "a.0xg");
        special("1..", "1..");
        special(".", ".");
        special("..", "..");
        special("a.", "a.");
        special("x0", "x0");
        special("1x", "1x");
        special("+1", "+1");
        special("1e", "1e");
        special("00x1", "00x1");
    }

    private static void fourNumbers() {
        special("1.2.3.4", "1.2.3.4");
        special("1.2.3.4.", "1.2.3.4");
        special("1.2.3", "1.2.0.3");
        special("1.2.65535", "1.2.255.255");
        special("1.2", "1.0.0.2");
        special("1.16777215", "1.255.255.255");
        special("1", "0.0.0.1");
        special("4294967295", "255.255.255.255");
        special("0", "0.0.0.0");
        special("0.", "0.0.0.0");
        special("255.255.255.255", "255.255.255.255");
        special("0x7f.1", "127.0.0.1");
        special("0XFf.0xABCDEF", "255.171.205.239");
        special("0x", "0.0.0.0");
        special("0x.0x.0x.0x", "0.0.0.0");
        special("010.07", "8.0.0.7");
        special("00", "0.0.0.0");
        special("000000000000000000000001", "0.0.0.1");
        special("0x00000000000000000000000a", "0.0.0.10");
        special("037777777777", "255.255.255.255");
        special("%31.%30x%46", "1.0.0.15");
        special("1%2e2", "1.0.0.2");
        special("16909060", "1.2.3.4");
    }

    private static void notFourNumbers() {
        special("09", null);
        special("1.08", null);
        special("08.1", null);
        special("a.1", null);
        special("a.0x1", null);
        special("a.0x", null);
        special("a.09", null);
        special("1..2", null);
        special(".1", null);
        special("1.2.3.4.5", null);
        special("1.2.3.4.5.", null);
        special("1.2.3.4.0", null);
        special("0.0.0.0.0", null);
        special("256.1", null);
        special("1.256.1", null);
        special("1.2.256.1", null);
        special("1.2.3.256", null);
        special("1.2.65536", null);
        special("1.16777216", null);
        special("4294967296", null);
        special("0x100000000", null);
        special("040000000000", null);
        special("18446744073709551617", null);
        special("0x10000000000000001", null);
        special("1.-1.1", null);
        special("1.0xg.1", null);
        special("1.1a.1", null);
    }

    private static void eightPieces() {
        bracketed("1:2:3:4:5:6:7:8", "1:2:3:4:5:6:7:8");
        bracketed("0001:0Ab0:ABCD:ef:0:00:000:0000", "1:ab0:abcd:ef::");
        bracketed("::", "::");
        bracketed("::1", "::1");
        bracketed("1::", "1::");
        bracketed("1::2", "1::2");
        bracketed("1:2:3:4:5:6:7::", "1:2:3:4:5:6:7:0");
        bracketed("::2:3:4:5:6:7:8", "0:2:3:4:5:6:7:8");
        bracketed("1:2:3::5:6:7:8", "1:2:3:0:5:6:7:8");
        bracketed("ffff::ffff", "ffff::ffff");
        bracketed("::1.2.3.4", "::102:304");
        bracketed("::0.0.0.0", "::");
        bracketed("::255.255.255.255", "::ffff:ffff");
        bracketed("1:2:3:4:5:6:10.0.20.100", "1:2:3:4:5:6:a00:1464");
        bracketed("1:2:3:4:5::1.2.3.4", "1:2:3:4:5:0:102:304");
        bracketed("1::1.2.3.4", "1::102:304");
        bracketed("::6:1.2.3.4", "::6:102:304");
    }

    private static void notEightPieces() {
        String[] wrong = {
            "", ":", ":::", "1", "1:2", "1:2:3:4:5:6:7", "1:2:3:4:5:6:7:", ":2:3:4:5:6:7:8", ":1::", "::1:",
            "1:2:3:4:5:6:7:8:", "1:2:3:4:5:6:7:8:9", "1:2:3:4:5:6:7:8::", "::1:2:3:4:5:6:7:8", "1:2:3:4::5:6:7:8",
            "1::2::3", "::1::", "1:::2", "12345::", "::12345", "g::", "::g", "1 ::", "::%31", "::1%", "::-1", "::1/",
            "1.2.3.4", "1:2:3:4:5:1.2.3.4", "1:2:3:4:5:6:7:1.2.3.4", "1:2:3:4:5:6::1.2.3.4", "1.2.3.4::", "::1.2.3.4:5",
            "::1.2.3.4::", "::1.2.3", "::1.2.3.", "::1.2.3.4.", "::1.2.3.4.5", "::.1.2.3", "::1..2.3", "::1.2.3.256",
            "::256.2.3.4", "::01.2.3.4", "::1.2.3.00", "::1.2.3.04", "::1.2.3.a", "::1a.2.3.4", "::1.2.3.1000", "::1.2.0x3.4",
            ":12", ":12:3", ":12:3:4:5:6:7:8", "::1.2x3.4", "::1.2:3.4", "::1.2.3:4", "1:2x3:4:5:6:7:8", "1::2x"
        };
        for (String pieces : wrong) {
            bracketed(pieces, null);
        }
        special("[::1", null);
        special("[", null);
        special("[::1]a", null);
        special("[::1].", null);
        special("[[::1]]", null);
        special("a[::1]", null);
        special("%5B::1]", null);
        Check.due("no end of the bracket in q", Desk.hostOf("q://[::1"), null);
        Check.due("more behind the bracket in q", Desk.hostOf("q://[::1]a"), null);
    }

    private static void writtenPieces() {
        bracketed("0:0:0:0:0:0:0:0", "::");
        bracketed("0:1:1:1:1:1:1:1", "0:1:1:1:1:1:1:1");
        bracketed("1:0:0:1:0:0:0:1", "1:0:0:1::1");
        bracketed("1:0:0:0:1:0:0:1", "1::1:0:0:1");
        bracketed("1:0:0:1:1:0:0:1", "1::1:1:0:0:1");
        bracketed("0:0:1:0:0:1:0:0", "::1:0:0:1:0:0");
        bracketed("0:0:1:1:0:0:0:0", "0:0:1:1::");
        bracketed("1:0:1:0:1:0:1:0", "1:0:1:0:1:0:1:0");
        bracketed("0:0:0:0:0:0:0:1", "::1");
        bracketed("1:0:0:0:0:0:0:0", "1::");
        bracketed("1:1:1:1:1:1:0:0", "1:1:1:1:1:1::");
        bracketed("0:0:1:1:1:1:1:1", "::1:1:1:1:1:1");
        bracketed("10:100:1000:0010:0100:f:ff:fff", "10:100:1000:10:100:f:ff:fff");
    }

    private static void oneHostAfterAnother() {
        Desk desk = Desk.of("http://[1:2:3:4:5:6:7:8]");
        desk.read("http://[9::a]", 0);
        Check.due("pieces after pieces", desk.part(0, Desk.HOST), "[9::a]");
        desk.read("http://[1:2:3:4:5:6:7]", 1);
        Check.due("too few pieces after pieces", desk.part(1, Desk.HOST), null);
        desk.read("http://1.2", 1);
        Check.due("numbers after pieces", desk.part(1, Desk.HOST), "1.0.0.2");
        desk.read("q://free", 2);
        Check.due("free text after numbers", desk.part(2, Desk.HOST), "free");
        desk.read("ws://a.b", 2);
        Check.due("a domain after free text", desk.part(2, Desk.HOST), "a.b");
        Check.due("the first one", desk.part(0, Desk.HOST), "[9::a]");
    }

    private static void freeTexts() {
        Check.due("capitals", Desk.hostOf("q://Ex.ORG"), "Ex.ORG");
        Check.due("numbers", Desk.hostOf("q://0x1.256"), "0x1.256");
        Check.due("nine", Desk.hostOf("q://09"), "09");
        Check.due("percent", Desk.hostOf("q://a%41%00%"), "a%41%00%");
        Check.due("signs", Desk.hostOf("q://!\"$&'()*+,-.;=_`{}~"), "!\"$&'()*+,-.;=_`{}~");
        Check.due("controls", Desk.hostOf("q://a\u0001\u001f\u007f\u0080\u00ff"), "a%01%1F%7F%C2%80%C3%BF");
        for (char c : " <>[\\]^|".toCharArray()) {
            Check.due("a free host with " + c, Desk.hostOf("q://a" + c + "b"), null);
        }
    }
}
