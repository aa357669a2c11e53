import java.math.BigInteger;
import java.util.ArrayList;
import java.util.Arrays;
import java.util.List;
import java.util.Map;

/**
 * The document once more, sentence by sentence and with the Java library, as slowly as it likes:
 * what UrlDesk answers is compared with this.
 */
final class Model {
    private static final Map<String, Integer> USUAL =
            Map.of("ftp", 21, "http", 80, "https", 443, "ws", 80, "wss", 443);
    private static final String QUERY = " \"#<>";
    private static final String SPECIAL_QUERY = QUERY + "'";
    private static final String FRAGMENT = " \"<>`";
    private static final String PATH = QUERY + "?^{}`";
    private static final String USERINFO = PATH + "/:;=@[\\]|";
    private static final String FORBIDDEN = "\0\t\n\r #/:<>?@[\\]^|";

    /** Thrown wherever the document says that reading fails. */
    private static final class Fails extends Exception {
        private static final long serialVersionUID = 1L;
    }

    private static final class Url implements Cloneable {
        String scheme;
        String username = "";
        String password = "";
        String host;
        Integer port;
        String opaque;
        List<String> list;
        String query;
        String fragment;

        boolean special() {
            return USUAL.containsKey(scheme);
        }

        String path() {
            if (opaque != null) {
                return opaque;
            }
            StringBuilder made = new StringBuilder();
            list.forEach(segment -> made.append('/').append(segment));
            return made.toString();
        }

        String text(boolean bare) {
            String made = scheme + ":";
            if (host != null) {
                made += "//";
                if (!username.isEmpty() || !password.isEmpty()) {
                    made += username + (password.isEmpty() ? "" : ":" + password) + "@";
                }
                made += host + (port == null ? "" : ":" + port);
            } else if (list != null && list.size() >= 2 && list.get(0).isEmpty()) {
                made += "/.";
            }
            made += path() + (query == null ? "" : "?" + query);
            return made + (fragment == null || bare ? "" : "#" + fragment);
        }

        String part(int part) {
            switch (part) {
                case 0: return text(false);
                case 1: return scheme;
                case 2: return username;
                case 3: return password;
                case 4: return host;
                case 5: return port == null ? null : port.toString();
                case 6: return path();
                case 7: return query;
                default: return fragment;
            }
        }

        Url twin() {
            try {
                Url made = (Url) clone();
                made.list = list == null ? null : new ArrayList<>(list);
                return made;
            } catch (CloneNotSupportedException e) {
                throw new IllegalStateException(e);
            }
        }
    }

    private final Url[] slots = new Url[4];
    private String draft = "";

    boolean type(char c) {
        if (c == 0 || c > 255 || draft.length() == 100) {
            return false;
        }
        draft += c;
        return true;
    }

    boolean cut(int n) {
        if (n < 0 || n > draft.length()) {
            return false;
        }
        draft = draft.substring(0, n);
        return true;
    }

    boolean read(int slot, int base) {
        if (slot < 0 || slot > 3 || base < -1 || base > 3 || base >= 0 && slots[base] == null) {
            return false;
        }
        try {
            Url made = new Reading(base < 0 ? null : slots[base].twin()).read(draft);
            if (made.text(false).length() > 600) {
                return false;
            }
            slots[slot] = made;
            return true;
        } catch (Fails e) {
            return false;
        }
    }

    boolean set(int slot, int part) {
        if (at(slot) == null) {
            return false;
        }
        Url made = slots[slot].twin();
        if ((part == 2 || part == 3 || part == 5) && (made.host == null || made.host.isEmpty())) {
            return false;
        }
        String clean = draft.replaceAll("[\\t\\n\\r]", "");
        if (part == 2) {
            made.username = encode(draft, USERINFO);
        } else if (part == 3) {
            made.password = encode(draft, USERINFO);
        } else if (part == 5) {
            String digits = draft.replaceAll("(?s)[^0-9].*", "");
            if (digits.isEmpty() && !draft.isEmpty()) {
                return false;
            }
            BigInteger number = new BigInteger("0" + digits);
            if (number.compareTo(BigInteger.valueOf(65535)) > 0) {
                return false;
            }
            made.port = digits.isEmpty() ? null : port(made.scheme, number.intValue());
        } else if (part == 7) {
            made.query = clean.isEmpty() ? null
                    : encode(clean.replaceFirst("^\\?", ""), made.special() ? SPECIAL_QUERY : QUERY);
        } else if (part == 8) {
            made.fragment = clean.isEmpty() ? null : encode(clean.replaceFirst("^#", ""), FRAGMENT);
        } else {
            return false;
        }
        if (made.text(false).length() > 600) {
            return false;
        }
        slots[slot] = made;
        return true;
    }

    boolean copy(int from, int to) {
        if (to < 0 || to > 3 || at(from) == null) {
            return false;
        }
        slots[to] = at(from).twin();
        return true;
    }

    int length(int slot, int part) {
        if (at(slot) == null || part < 0 || part > 8) {
            return -1;
        }
        String found = at(slot).part(part);
        return found == null ? -2 : found.length();
    }

    int charAt(int slot, int part, int i) {
        return i < 0 || i >= length(slot, part) ? -2 : at(slot).part(part).charAt(i);
    }

    int port(int slot) {
        return at(slot) == null ? -1 : at(slot).port == null ? -2 : at(slot).port;
    }

    int segments(int slot) {
        return at(slot) == null ? -1 : at(slot).list == null ? -2 : at(slot).list.size();
    }

    boolean same(int a, int b, boolean bare) {
        return at(a) != null && at(b) != null && at(a).text(bare).equals(at(b).text(bare));
    }

    int pairs(int slot) {
        return pairsOf(slot).size();
    }

    int pairAt(int slot, int k, boolean value, int i) {
        List<String> pairs = pairsOf(slot);
        if (k < 0 || k >= pairs.size()) {
            return -2;
        }
        String[] sides = (pairs.get(k) + (pairs.get(k).contains("=") ? "" : "=")).split("=", 2);
        List<Integer> bytes = decode(sides[value ? 1 : 0].replace('+', ' '));
        return i < 0 || i >= bytes.size() ? -2 : bytes.get(i);
    }

    private List<String> pairsOf(int slot) {
        List<String> found = new ArrayList<>();
        if (at(slot) != null && at(slot).query != null) {
            found.addAll(Arrays.asList(at(slot).query.split("&")));
            found.removeIf(String::isEmpty);
        }
        return found;
    }

    private Url at(int slot) {
        return slot < 0 || slot > 3 ? null : slots[slot];
    }

    private static Integer port(String scheme, int number) {
        return Integer.valueOf(number).equals(USUAL.get(scheme)) ? null : Integer.valueOf(number);
    }

    private static String encode(String text, String set) {
        StringBuilder made = new StringBuilder();
        for (char c : text.toCharArray()) {
            int[] bytes = c < 128 ? new int[] {c} : new int[] {192 + c / 64, 128 + c % 64};
            for (int b : bytes) {
                boolean in = b < 32 || b > 126 || set.indexOf(b) >= 0;
                made.append(in ? String.format("%%%02X", b) : String.valueOf((char) b));
            }
        }
        return made.toString();
    }

    private static List<Integer> decode(String text) {
        List<Integer> made = new ArrayList<>();
        for (int i = 0; i < text.length(); i++) {
            int c = text.charAt(i);
            if (text.substring(i).matches("(?s)%[0-9a-fA-F]{2}.*")) {
                made.add(Integer.parseInt(text.substring(i + 1, i + 3), 16));
                i += 2;
            } else if (c < 128) {
                made.add(c);
            } else {
                made.add(192 + c / 64);
                made.add(128 + c % 64);
            }
        }
        return made;
    }

    /** One reading of a text. */
    private static final class Reading {
        private final Url base;
        private final Url made = new Url();
        private String rest;

        Reading(Url base) {
            this.base = base;
        }

        Url read(String draft) throws Fails {
            rest = draft.replaceFirst("^[\\x00-\\x20]+", "").replaceFirst("[\\x00-\\x20]+$", "");
            rest = rest.replaceAll("[\\t\\n\\r]", "");
            boolean own = rest.matches("(?s)[a-zA-Z][-a-zA-Z0-9+.]*:.*");
            if (own) {
                int colon = rest.indexOf(':');
                made.scheme = rest.substring(0, colon).toLowerCase(java.util.Locale.ROOT);
                rest = rest.substring(colon + 1);
            } else if (base == null) {
                throw new Fails();
            } else {
                made.scheme = base.scheme;
            }
            takeTail();
            if (own && made.special()) {
                if (base != null && base.scheme.equals(made.scheme) && !rest.startsWith("//")) {
                    relative();
                } else {
                    rest = rest.replaceFirst("^[/\\\\]+", "");
                    authority();
                }
            } else if (own) {
                other();
            } else if (base.opaque != null) {
                if (!rest.isEmpty() || made.query != null || made.fragment == null) {
                    throw new Fails();
                }
                String fragment = made.fragment;
                Url twin = base.twin();
                twin.fragment = fragment;
                return twin;
            } else {
                relative();
            }
            return made;
        }

        private void takeTail() {
            int hash = rest.indexOf('#');
            if (hash >= 0) {
                made.fragment = encode(rest.substring(hash + 1), FRAGMENT);
                rest = rest.substring(0, hash);
            }
            int mark = rest.indexOf('?');
            if (mark >= 0) {
                made.query = encode(rest.substring(mark + 1), made.special() ? SPECIAL_QUERY : QUERY);
                rest = rest.substring(0, mark);
            }
        }

        private void other() throws Fails {
            if (rest.startsWith("//")) {
                rest = rest.substring(2);
                authority();
            } else if (rest.startsWith("/")) {
                made.list = list(new ArrayList<>(), rest.substring(1));
            } else {
                made.opaque = encode(rest, "");
            }
        }

        private String slash() {
            return made.special() ? "[/\\\\]" : "/";
        }

        private void relative() throws Fails {
            if (rest.matches("(?s)" + slash() + slash() + ".*")) {
                rest = rest.replaceFirst("^" + slash() + (made.special() ? "+" : "{2}"), "");
                authority();
                return;
            }
            made.username = base.username;
            made.password = base.password;
            made.host = base.host;
            made.port = base.port;
            if (rest.matches("(?s)" + slash() + ".*")) {
                made.list = list(new ArrayList<>(), rest.substring(1));
            } else if (rest.isEmpty()) {
                made.list = base.list;
                made.query = made.query == null ? base.query : made.query;
            } else {
                List<String> start = new ArrayList<>(base.list);
                if (!start.isEmpty()) {
                    start.remove(start.size() - 1);
                }
                made.list = list(start, rest);
            }
        }

        private List<String> list(List<String> made, String text) {
            String[] pieces = text.split(slash(), -1);
            for (int i = 0; i < pieces.length; i++) {
                boolean last = i == pieces.length - 1;
                if (pieces[i].matches("(\\.|%2[eE]){2}")) {
                    if (!made.isEmpty()) {
                        made.remove(made.size() - 1);
                    }
                    if (last) {
                        made.add("");
                    }
                } else if (pieces[i].matches("\\.|%2[eE]")) {
                    if (last) {
                        made.add("");
                    }
                } else {
                    made.add(encode(pieces[i], PATH));
                }
            }
            return made;
        }

        private void authority() throws Fails {
            String[] halves = rest.split(slash(), 2);
            String authority = halves[0];
            int at = authority.lastIndexOf('@');
            if (at >= 0) {
                String[] credentials = authority.substring(0, at).split(":", 2);
                made.username = encode(credentials[0], USERINFO);
                made.password = credentials.length < 2 ? "" : encode(credentials[1], USERINFO);
            }
            String hostAndPort = authority.substring(at + 1);
            int colon = blank(hostAndPort).indexOf(':');
            if (colon >= 0) {
                String digits = hostAndPort.substring(colon + 1);
                if (!digits.matches("[0-9]*")
                        || new BigInteger("0" + digits).compareTo(BigInteger.valueOf(65535)) > 0) {
                    throw new Fails();
                }
                made.port = digits.isEmpty() ? null : port(made.scheme, new BigInteger(digits).intValue());
            }
            String host = colon < 0 ? hostAndPort : hostAndPort.substring(0, colon);
            if (host.isEmpty() && (made.special() || at >= 0 || colon >= 0)) {
                throw new Fails();
            }
            made.host = host.isEmpty() ? "" : host(host);
            if (halves.length > 1) {
                made.list = list(new ArrayList<>(), halves[1]);
            } else {
                made.list = new ArrayList<>(made.special() ? List.of("") : List.of());
            }
        }

        /** What stands between brackets is made blank, each character by one. */
        private static String blank(String text) {
            StringBuilder made = new StringBuilder();
            for (int i = 0; i < text.length(); i++) {
                int open = text.lastIndexOf('[', i);
                boolean between = open >= 0 && text.substring(open, i).indexOf(']') < 0;
                made.append(between ? '_' : text.charAt(i));
            }
            return made.toString();
        }

        private String host(String text) throws Fails {
            if (text.startsWith("[")) {
                if (!text.endsWith("]")) {
                    throw new Fails();
                }
                return "[" + written(eight(text.substring(1, text.length() - 1))) + "]";
            }
            if (!made.special()) {
                for (char c : text.toCharArray()) {
                    if (FORBIDDEN.indexOf(c) >= 0) {
                        throw new Fails();
                    }
                }
                return encode(text, "");
            }
            StringBuilder domain = new StringBuilder();
            for (int b : decode(text)) {
                if (b <= 32 || b > 126 || b == '%' || FORBIDDEN.indexOf(b) >= 0) {
                    throw new Fails();
                }
                domain.append(Character.toLowerCase((char) b));
            }
            return numbersOr(domain.toString());
        }

        private static String numbersOr(String domain) throws Fails {
            List<String> parts = new ArrayList<>(Arrays.asList(domain.split("\\.", -1)));
            if (parts.size() >= 2 && parts.get(parts.size() - 1).isEmpty()) {
                parts.remove(parts.size() - 1);
            }
            String last = parts.get(parts.size() - 1);
            if (!last.matches("[0-9]+") && number(last) == null) {
                return domain;
            }
            int n = parts.size();
            if (n > 4) {
                throw new Fails();
            }
            BigInteger address = BigInteger.ZERO;
            for (int i = 0; i < n; i++) {
                BigInteger number = number(parts.get(i));
                int power = i < n - 1 ? 1 : 5 - n;
                if (number == null || number.compareTo(BigInteger.valueOf(256).pow(power)) >= 0) {
                    throw new Fails();
                }
                address = address.multiply(BigInteger.valueOf(256).pow(power)).add(number);
            }
            long all = address.longValue();
            return all / 16777216 + "." + all / 65536 % 256 + "." + all / 256 % 256 + "." + all % 256;
        }

        private static BigInteger number(String part) {
            if (part.matches("0x[0-9a-f]*")) {
                return new BigInteger("0" + part.substring(2), 16);
            }
            if (part.matches("0[0-7]+")) {
                return new BigInteger(part, 8);
            }
            return part.matches("[1-9][0-9]*|0") ? new BigInteger(part) : null;
        }

        private static List<Integer> eight(String text) throws Fails {
            int gap = text.indexOf("::");
            List<Integer> made = gap < 0 ? row(text, true) : row(text.substring(0, gap), false);
            if (gap >= 0) {
                List<Integer> behind = row(text.substring(gap + 2), true);
                if (made.size() + behind.size() > 7) {
                    throw new Fails();
                }
                while (made.size() + behind.size() < 8) {
                    made.add(0);
                }
                made.addAll(behind);
            }
            if (made.size() != 8) {
                throw new Fails();
            }
            return made;
        }

        private static List<Integer> row(String text, boolean end) throws Fails {
            List<Integer> made = new ArrayList<>();
            if (text.isEmpty()) {
                return made;
            }
            String[] pieces = text.split(":", -1);
            for (int i = 0; i < pieces.length; i++) {
                String number = "(0|[1-9][0-9]?|1[0-9][0-9]|2[0-4][0-9]|25[0-5])";
                if (pieces[i].matches("[0-9a-fA-F]{1,4}")) {
                    made.add(Integer.parseInt(pieces[i], 16));
                } else if (end && i == pieces.length - 1 && pieces[i].matches(number + "(\\." + number + "){3}")) {
                    String[] four = pieces[i].split("\\.");
                    made.add(Integer.parseInt(four[0]) * 256 + Integer.parseInt(four[1]));
                    made.add(Integer.parseInt(four[2]) * 256 + Integer.parseInt(four[3]));
                } else {
                    throw new Fails();
                }
            }
            return made;
        }

        private static String written(List<Integer> pieces) {
            StringBuilder made = new StringBuilder();
            pieces.forEach(piece -> made.append(':').append(Integer.toHexString(piece)));
            String all = made.substring(1);
            for (int size = 8; size >= 2; size--) {
                for (int from = 0; from + size <= 8; from++) {
                    if (pieces.subList(from, from + size).stream().allMatch(piece -> piece == 0)) {
                        String[] words = all.split(":");
                        return String.join(":", Arrays.copyOfRange(words, 0, from)) + "::"
                                + String.join(":", Arrays.copyOfRange(words, from + size, 8));
                    }
                }
            }
            return all;
        }
    }
}
