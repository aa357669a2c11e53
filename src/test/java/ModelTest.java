import java.util.Random;

/** All promises: long runs of calls, made up from fixed seeds, answered as the model answers them. */
public final class ModelTest {
    private static final int RUNS = 6000;
    // A little more than a draft takes.
    private static final int LONGEST_DRAFT = 103;
    private static final String[] SCHEMES = {
        "http:", "https:", "ws:", "wss:", "ftp:", "q:", "HtTp:", "file:", "a+-.1:", "1a:", "", "", "", "", "http"
    };
    private static final String[] SLASHES = {"//", "//", "//", "/", "", "///", "\\\\", "\\", "/\\", "\\/"};
    private static final String[] CREDENTIALS = {
        "", "", "", "u@", "u:p@", ":p@", "@", ":@", "a@b@", "a:b:c@", "u;=|@", "\u00e9:[]@", "%41^@"
    };
    private static final String[] HOSTS = {
        "h", "Ex.Org", "1", "1.2", "1.2.3", "1.2.3.4", "1.2.3.4.", "1.2.3.4.5", "256.1", "0x1.1", "0xffffffff",
        "4294967296", "09", "010.1", "0x", "0xg", "a.0x1", "a.09", "1..2", ".", "..", "1..", "a%41", "a%2E1",
        "%31.%32", "a%", "a%zz", "a%00", "\u00e9", "a b", "a^b", "a|b", "a<b", "a\u007f", "a\u0001b",
        "[::1]", "[1::]", "[::]", "[1:2:3:4:5:6:7:8]", "[1:2:3:4:5:6:7::]", "[::1.2.3.4]", "[1:2:3:4:5:6:7.8.9.10]",
        "[1:0:0:2:0:0:0:3]", "[1:0:0:2:3:0:0:4]", "[0:0:1:0:0:0:0:0]", "[::01.2.3.4]", "[::1.2.3]", "[::1.2.3.256]",
        "[:1]", "[1:]", "[:::]", "[::1::]", "[1:2:3:4:5:6:7:8:9]", "[1:2:3:4:5:6:7:1.2.3.4]", "[12345::]", "[::g]",
        "[", "[]", "[::1", "[::1]a", "]", "[ABCD:ef01::00A]", "", "", "a:b", "+", "h;=", "{h}", "h'", "h%23"
    };
    private static final String[] PORTS = {
        "", "", "", ":", ":80", ":21", ":443", ":8", ":65535", ":65536", ":00080", ":99999999999", ":8a", ":-1", ":0"
    };
    private static final String[] PIECES = {
        "/", "/", "/", "/a", "/b/", "/.", "/..", "/%2e", "/%2E.", "/.%2e", "/%2e%2E", "/...", "/.a", "\\", "/\\",
        "x", "y z", "..", ".", "%2e", "\u00e9", "^`{}", "\"<>", "|", "%", "%2", "/%2f", "'", ";=", "\u007f", ":", "@"
    };
    private static final String[] QUERIES = {
        "", "", "?", "?a=1&b=2", "?a=1&&b=%41+c&d", "?=&=x&y=", "?&&&", "?'\"<> ", "?\u00e9`{}^|", "??x", "?%zz=%4",
        "?a%3d=%26&+=+%2B", "?a%00=%ff", "?a=b=c", "?a=%"
    };
    private static final String[] FRAGMENTS = {"", "", "", "#", "#f", "##", "#a?b#c", "# \"<>`'{}^\u00ff"};
    private static final String[] BITS = {" ", "\t", "\n", "\r", "\u0001", "\u001f", "#", "?", ":", "[", "]", "@", "/"};

    private final Random random;
    private final Desk desk = new Desk();
    private final Model model = new Model();
    private final StringBuilder told = new StringBuilder();

    private ModelTest(long seed) {
        random = new Random(seed);
    }

    public static void main(String[] args) {
        for (int seed = 0; seed < RUNS && Check.allWell(); seed++) {
            ModelTest run = new ModelTest(seed);
            run.go();
            if (!Check.allWell()) {
                System.out.println("seed " + seed + ":" + run.told);
            }
        }
        Check.end();
    }

    private void go() {
        while (desk.callsLeft() > 200 && Check.allWell()) {
            changeDraft();
            changeSlots();
            look();
        }
        while (desk.callsLeft() > 0 && Check.allWell()) {
            lookOnce(slot());
        }
    }

    private void changeDraft() {
        int kept = random.nextInt(8) == 0 ? random.nextInt(110) - 3 : 0;
        due("cut " + kept, desk.call().cut(kept), model.cut(kept));
        String text = random.nextInt(5) == 0 ? tail() : address();
        for (char c : text.toCharArray()) {
            due("type " + (int) c, desk.call().type(c), model.type(c));
        }
    }

    private void changeSlots() {
        int a = slot();
        int b = slot();
        switch (random.nextInt(9)) {
            case 0:
                due("copy " + a + " " + b, desk.call().copy(a, b), model.copy(a, b));
                break;
            case 1:
            case 2:
            case 3:
                int part = random.nextInt(11) - 1;
                due("set " + a + " " + part, desk.call().set(a, part), model.set(a, part));
                break;
            default:
                int base = random.nextInt(3) == 0 ? -1 : b;
                due("read " + a + " " + base, desk.call().read(a, base), model.read(a, base));
        }
    }

    private void look() {
        int slot = slot();
        for (int part = 0; part < 9; part++) {
            due("length " + slot + " " + part, desk.call().length(slot, part), model.length(slot, part));
        }
        for (int i = 0; i < 30; i++) {
            lookOnce(slot);
        }
    }

    private void lookOnce(int slot) {
        int part = random.nextInt(12) - 1;
        int i = random.nextInt(1 + Math.max(0, model.length(slot, part)) + 1) - 1;
        int k = random.nextInt(5) - 1;
        int other = slot();
        boolean flag = random.nextBoolean();
        switch (random.nextInt(8)) {
            case 0:
                due("port " + slot, desk.call().port(slot), model.port(slot));
                break;
            case 1:
                due("segments " + slot, desk.call().segments(slot), model.segments(slot));
                break;
            case 2:
                due("same " + slot + " " + other + " " + flag, desk.call().same(slot, other, flag), model.same(slot, other, flag));
                break;
            case 3:
                due("pairs " + slot, desk.call().pairs(slot), model.pairs(slot));
                break;
            case 4:
                int at = random.nextInt(6) - 1;
                due("pairAt " + slot + " " + k + " " + flag + " " + at,
                        desk.call().pairAt(slot, k, flag, at), model.pairAt(slot, k, flag, at));
                break;
            default:
                due("charAt " + slot + " " + part + " " + i, desk.call().charAt(slot, part, i), model.charAt(slot, part, i));
        }
    }

    private void due(String call, Object got, Object want) {
        told.append(' ').append(call).append(';');
        Check.due(call, got, want);
    }

    private int slot() {
        return random.nextInt(12) == 0 ? random.nextInt(7) - 2 : random.nextInt(random.nextBoolean() ? 2 : 4);
    }

    private String address() {
        StringBuilder made = new StringBuilder(pick(SCHEMES));
        if (random.nextInt(4) > 0) {
            made.append(pick(SLASHES)).append(pick(CREDENTIALS)).append(pick(HOSTS)).append(pick(PORTS));
        }
        for (int i = random.nextInt(6); i > 0; i--) {
            made.append(pick(PIECES));
        }
        if (random.nextInt(12) == 0) {
            made.append(pick(PIECES).repeat(20));
        }
        made.append(pick(QUERIES)).append(pick(FRAGMENTS));
        for (int i = random.nextInt(9) - 6; i > 0; i--) {
            made.insert(random.nextInt(made.length() + 1), pick(BITS));
        }
        made.setLength(Math.min(made.length(), LONGEST_DRAFT));
        return made.toString();
    }

    private String tail() {
        switch (random.nextInt(4)) {
            case 0:
                return pick(PORTS).replaceFirst("^:", "") + (random.nextBoolean() ? "" : "x");
            case 1:
                return pick(QUERIES) + pick(FRAGMENTS) + pick(BITS);
            case 2:
                return String.valueOf((char) (1 + random.nextInt(255))).repeat(random.nextInt(100));
            default:
                return pick(BITS) + pick(CREDENTIALS) + pick(FRAGMENTS);
        }
    }

    private String pick(String[] from) {
        return from[random.nextInt(from.length)];
    }
}
