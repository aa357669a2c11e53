/** Promises 4 and 5: each part is encoded by its set, byte for byte. */
public final class EncodingTest {
    private static final String CONTROL = "";
    private static final String FRAGMENT = " \"<>`";
    private static final String QUERY = " \"#<>";
    private static final String SPECIAL_QUERY = QUERY + "'";
    private static final String PATH = QUERY + "?^{}`";
    private static final String USERINFO = PATH + "/:;=@[\\]|";
    private static final String BREAKS = "\t\n\r";

    public static void main(String[] args) {
        for (char c = 1; c <= 255; c++) {
            read("q:x", c, "y", Desk.PATH, CONTROL, "?#");
            read("q:/x", c, "y", Desk.PATH, PATH, "/?#");
            read("http://h/x", c, "y", Desk.PATH, PATH, "/\\?#");
            read("q:x?x", c, "y", Desk.QUERY, QUERY, "#");
            read("ws://h?x", c, "y", Desk.QUERY, SPECIAL_QUERY, "#");
            read("q:x#x", c, "y", Desk.FRAGMENT, FRAGMENT, "");
            read("http://x", c, "y@h/", Desk.USERNAME, USERINFO, "/\\?#:");
            read("q://u:x", c, "y@h/", Desk.PASSWORD, USERINFO, "/?#");
            read("q://x", c, "y/", Desk.HOST, CONTROL, " /:?@#<>[\\]^|");
            set("http://h", c, Desk.USERNAME, USERINFO, "");
            set("q://h", c, Desk.PASSWORD, USERINFO, "");
            set("http://h", c, Desk.QUERY, SPECIAL_QUERY, BREAKS);
            set("q:x", c, Desk.QUERY, QUERY, BREAKS);
            set("http://h", c, Desk.FRAGMENT, FRAGMENT, BREAKS);
        }
        whatIsEncodedStays();
        Check.end();
    }

    /** Each part that is looked at begins with x and ends with y; the skipped ones end the part. */
    private static void read(String before, char c, String behind, int part, String set, String skipped) {
        if ((skipped + BREAKS).indexOf(c) >= 0) {
            return;
        }
        String text = before + c + behind;
        String slash = before.endsWith("/x") && part == Desk.PATH ? "/" : "";
        Check.due("part " + part + " of " + text, Desk.of(text).part(0, part), slash + "x" + encoded(c, set) + "y");
    }

    private static void set(String text, char c, int part, String set, String skipped) {
        if (skipped.indexOf(c) >= 0) {
            return;
        }
        Desk desk = Desk.of(text);
        Check.due("set " + part, desk.set("x" + c + "y", 0, part), true);
        Check.due("part " + part + " with " + (int) c, desk.part(0, part), "x" + encoded(c, set) + "y");
    }

    private static String encoded(char c, String set) {
        if (c >= 128) {
            return String.format("%%%02X%%%02X", 192 + c / 64, 128 + c % 64);
        }
        boolean in = c < 32 || c > 126 || set.indexOf(c) >= 0;
        return in ? String.format("%%%02X", (int) c) : String.valueOf(c);
    }

    private static void whatIsEncodedStays() {
        Check.due("percent signs", Desk.readAlone("q://%41:%zz@%7f/%/%2?%%#%4"), "q://%41:%zz@%7f/%/%2?%%#%4");
        Check.due("taken from a base",
                Desk.readWith("http://\u00e9:@@h/\u00e9 /x?\u00e9'", "y"), "http://%C3%A9:%40@h/%C3%A9%20/y");
        Check.due("a query taken from a base",
                Desk.readWith("http://h/x?\u00e9'%\"", "#"), "http://h/x?%C3%A9%27%%22#");
    }
}
