/**
 * Reads addresses of the web, alone or relative to another one, into their parts, writes them out
 * again, and changes single parts.
 *
 * <p>Every row is made once, in a constructor, and used again by each call: a call makes no object.
 */
public final class UrlDesk {
    public static final int BAD = -1;
    public static final int NONE = -2;

    private static final int SLOTS = 4;
    private static final int DRAFT_ROOM = 100;
    private static final int URL_ROOM = 600;
    // A base's path, and behind it a draft whose every character takes two bytes, six characters.
    private static final int PATH_ROOM = 1300;
    private static final int HIGHEST_PORT = 65535;

    private static final int TEXT = 0;
    private static final int SCHEME = 1;
    private static final int USERNAME = 2;
    private static final int PASSWORD = 3;
    private static final int HOST = 4;
    private static final int PORT = 5;
    private static final int PATH = 6;
    private static final int QUERY = 7;
    private static final int FRAGMENT = 8;
    private static final int PARTS = 9;

    // A set is named by what it has beside the bytes below 32 and above 126, which are in each.
    private static final String CONTROL_SET = "";
    private static final String FRAGMENT_SET = " \"<>`";
    private static final String QUERY_SET = " \"#<>";
    private static final String SPECIAL_QUERY_SET = " \"#<>'";
    private static final String PATH_SET = " \"#<>?^{}`";
    private static final String USERINFO_SET = " \"#<>?^{}`/:;=@[\\]|";

    private final Text draft;
    private final Reader reader;
    // The reader's own: what it finds is written from here, and so is what set puts together.
    private final Parts parts;
    private final PairWalk pairWalk;
    private final Url[] slots;
    // What a call makes is written here and changes places with a slot's URL only when it stands.
    private Url spare;

    public UrlDesk() {
        draft = new Text(DRAFT_ROOM);
        reader = new Reader();
        parts = reader.parts;
        pairWalk = new PairWalk();
        slots = new Url[SLOTS];
        for (int i = 0; i < SLOTS; i++) {
            slots[i] = new Url();
        }
        spare = new Url();
    }

    public boolean type(char c) {
        if (c < 1 || c > 255 || draft.count >= DRAFT_ROOM) {
            return false;
        }
        draft.add(c);
        return true;
    }

    public boolean cut(int n) {
        if (n < 0 || n > draft.count) {
            return false;
        }
        draft.keep(n);
        return true;
    }

    public boolean read(int slot, int base) {
        if (!isSlot(slot)) {
            return false;
        }
        Url baseUrl = urlIn(base);
        if (base != -1 && baseUrl == null) {
            return false;
        }
        if (!reader.readDraft(draft, baseUrl) || !spare.write(parts)) {
            return false;
        }
        putSpareIn(slot);
        return true;
    }

    public boolean set(int slot, int part) {
        Url url = urlIn(slot);
        if (url == null) {
            return false;
        }
        parts.useAllOf(url);
        if (!replaceByDraft(part) || !spare.write(parts)) {
            return false;
        }
        putSpareIn(slot);
        return true;
    }

    public boolean copy(int from, int to) {
        Url url = urlIn(from);
        if (url == null || !isSlot(to)) {
            return false;
        }
        slots[to].become(url);
        return true;
    }

    public int length(int slot, int part) {
        Url url = urlIn(slot);
        if (url == null || part < 0 || part >= PARTS) {
            return BAD;
        }
        return url.has(part) ? url.partTo(part) - url.partFrom(part) : NONE;
    }

    public int charAt(int slot, int part, int i) {
        Url url = urlIn(slot);
        if (url == null || !url.has(part)) {
            return NONE;
        }
        if (i < 0 || i >= url.partTo(part) - url.partFrom(part)) {
            return NONE;
        }
        return url.text.at(url.partFrom(part) + i);
    }

    public int port(int slot) {
        Url url = urlIn(slot);
        return url == null ? BAD : url.portNumber;
    }

    public int segments(int slot) {
        Url url = urlIn(slot);
        if (url == null) {
            return BAD;
        }
        return url.opaque ? NONE : url.countInPart(PATH, '/');
    }

    public boolean same(int a, int b, boolean bare) {
        Url first = urlIn(a);
        Url second = urlIn(b);
        if (first == null || second == null) {
            return false;
        }
        int size = first.textSize(bare);
        if (size != second.textSize(bare)) {
            return false;
        }
        for (int i = 0; i < size; i++) {
            if (first.text.at(i) != second.text.at(i)) {
                return false;
            }
        }
        return true;
    }

    public int pairs(int slot) {
        pairWalk.startAt(urlIn(slot));
        int found = 0;
        while (found < URL_ROOM && pairWalk.goOn()) {
            found++;
        }
        return found;
    }

    public int pairAt(int slot, int k, boolean value, int i) {
        pairWalk.startAt(urlIn(slot));
        for (int n = 0; n < URL_ROOM && pairWalk.goOn(); n++) {
            if (n == k) {
                return pairWalk.byteAt(value, i);
            }
        }
        return NONE;
    }

    private static boolean isSlot(int slot) {
        return slot >= 0 && slot < SLOTS;
    }

    private Url urlIn(int slot) {
        return isSlot(slot) && slots[slot].there ? slots[slot] : null;
    }

    private void putSpareIn(int slot) {
        Url old = slots[slot];
        slots[slot] = spare;
        slots[slot].there = true;
        spare = old;
    }

    private boolean replaceByDraft(int part) {
        switch (part) {
            case USERNAME:
            case PASSWORD:
                parts.use(part, draft, 0, draft.count);
                return !parts.isEmpty(HOST);
            case PORT:
                return !parts.isEmpty(HOST) && parts.usePortAtBeginning(draft);
            case QUERY:
                reader.useTail(QUERY, draft, '?');
                return true;
            case FRAGMENT:
                reader.useTail(FRAGMENT, draft, '#');
                return true;
            default:
                return false;
        }
    }

    /** What single characters are and make. */
    private static final class Chars {
        private static final String HOST_FORBIDS = "\0\t\n\r #/:<>?@[\\]^|";

        static boolean isDigit(int c) {
            return c >= '0' && c <= '9';
        }

        static boolean isBreak(int c) {
            return c == 9 || c == 10 || c == 13;
        }

        static int small(int c) {
            return c >= 'A' && c <= 'Z' ? c + ('a' - 'A') : c;
        }

        static boolean mayBeInScheme(int c, boolean first) {
            int letter = small(c);
            if (letter >= 'a' && letter <= 'z') {
                return true;
            }
            return !first && (isDigit(c) || c == '+' || c == '-' || c == '.');
        }

        static boolean mayBeInFreeHost(int c) {
            return HOST_FORBIDS.indexOf((char) c) < 0;
        }

        static boolean mayBeInDomain(int c) {
            return c > 32 && c <= 126 && c != '%' && mayBeInFreeHost(c);
        }

        /** The value of a hexadecimal digit, or NONE. */
        static int hexValue(int c) {
            if (c >= '0' && c <= '9') {
                return c - '0';
            }
            if (c >= 'a' && c <= 'f') {
                return c - 'a' + 10;
            }
            return c >= 'A' && c <= 'F' ? c - 'A' + 10 : NONE;
        }
    }

    /** A row of characters with room for so many and no more. */
    private static final class Text {
        private static final String BIG_DIGITS = "0123456789ABCDEF";
        private static final String SMALL_DIGITS = "0123456789abcdef";

        private final char[] chars;
        int count;
        boolean overfull;

        Text(int room) {
            chars = new char[room];
        }

        void clear() {
            count = 0;
            overfull = false;
        }

        void add(int c) {
            if (count < chars.length) {
                chars[count] = (char) c;
                count++;
            } else {
                overfull = true;
            }
        }

        void keep(int n) {
            if (n >= 0 && n < count) {
                count = n;
            }
        }

        /** Character i, or NONE: so a look ahead needs no test of its own. */
        int at(int i) {
            return i >= 0 && i < count ? chars[i] : NONE;
        }

        /** Where a character first stands in a range; the range's end when it does not. */
        int find(char c, int from, int to) {
            int i = from;
            while (i < to && at(i) != c) {
                i++;
            }
            return i;
        }

        int digitsEnd(int from, int to) {
            int i = from;
            while (i < to && Chars.isDigit(at(i))) {
                i++;
            }
            return i;
        }

        /** The byte that a % and two hexadecimal digits within a range make, or NONE. */
        int escapedByte(int i, int to) {
            if (at(i) != '%' || i + 2 >= to) {
                return NONE;
            }
            int high = Chars.hexValue(at(i + 1));
            int low = Chars.hexValue(at(i + 2));
            return high < 0 || low < 0 ? NONE : 16 * high + low;
        }

        boolean spells(int from, int to, String word) {
            if (to - from != word.length()) {
                return false;
            }
            for (int i = 0; i < word.length(); i++) {
                if (at(from + i) != word.charAt(i)) {
                    return false;
                }
            }
            return true;
        }

        void makeSmall(int to) {
            for (int i = 0; i < to && i < count; i++) {
                chars[i] = (char) Chars.small(chars[i]);
            }
        }

        void become(Text other) {
            count = Math.min(other.count, chars.length);
            overfull = other.count > chars.length;
            for (int i = 0; i < count; i++) {
                chars[i] = other.chars[i];
            }
        }

        void becomeWithoutBreaks(Text other, int from, int to) {
            clear();
            for (int i = from; i < to; i++) {
                if (!Chars.isBreak(other.at(i))) {
                    add(other.at(i));
                }
            }
        }

        /** Up to five digits. */
        void addDecimal(int n) {
            for (int unit = 10000; unit > 0; unit /= 10) {
                if (unit == 1 || n >= unit) {
                    add('0' + n / unit % 10);
                }
            }
        }

        /** Up to four digits. */
        void addHexadecimal(int n) {
            for (int shift = 12; shift >= 0; shift -= 4) {
                if (shift == 0 || n >> shift != 0) {
                    add(SMALL_DIGITS.charAt(n >> shift & 15));
                }
            }
        }

        void addEncoded(Text source, int from, int to, String set) {
            for (int i = from; i < to; i++) {
                int c = source.at(i);
                if (c < 128) {
                    addByte(c, set);
                } else {
                    addByte(192 + c / 64, set);
                    addByte(128 + c % 64, set);
                }
            }
        }

        private void addByte(int b, String set) {
            if (b < 32 || b > 126 || set.indexOf((char) b) >= 0) {
                add('%');
                add(BIG_DIGITS.charAt(b >> 4 & 15));
                add(BIG_DIGITS.charAt(b & 15));
            } else {
                add(b);
            }
        }
    }

    /** The special schemes; NONE stands for any other one. */
    private static final class Kinds {
        private static final int FTP = 0;
        private static final int HTTP = 1;
        private static final int HTTPS = 2;
        private static final int WS = 3;
        private static final int WSS = 4;

        static int kindOf(Text text, int from, int to) {
            if (text.spells(from, to, "ftp")) {
                return FTP;
            }
            if (text.spells(from, to, "http")) {
                return HTTP;
            }
            if (text.spells(from, to, "https")) {
                return HTTPS;
            }
            if (text.spells(from, to, "ws")) {
                return WS;
            }
            return text.spells(from, to, "wss") ? WSS : NONE;
        }

        static int usualPort(int kind) {
            switch (kind) {
                case FTP:
                    return 21;
                case HTTP:
                case WS:
                    return 80;
                case HTTPS:
                case WSS:
                    return 443;
                default:
                    return NONE;
            }
        }
    }

    /**
     * Where the parts of a URL that is being made come from: each is a range of a text, or none.
     *
     * <p>A part may be taken from a URL and so be encoded already. That needs no mark: % is in no
     * set, hence what a set has encoded it leaves as it is a second time.
     */
    private static final class Parts {
        final Text[] sources = new Text[PARTS];
        final int[] froms = new int[PARTS];
        final int[] tos = new int[PARTS];
        int kind;
        int portNumber;
        boolean opaque;

        void clear() {
            for (int part = 0; part < PARTS; part++) {
                drop(part);
            }
            kind = NONE;
            portNumber = NONE;
            opaque = false;
        }

        void drop(int part) {
            use(part, null, 0, 0);
        }

        void use(int part, Text source, int from, int to) {
            sources[part] = source;
            froms[part] = from;
            tos[part] = to;
        }

        void useOf(Url url, int part) {
            if (url.has(part)) {
                use(part, url.text, url.partFrom(part), url.partTo(part));
            } else {
                drop(part);
            }
        }

        void useAllOf(Url url) {
            for (int part = SCHEME; part < PARTS; part++) {
                useOf(url, part);
            }
            kind = url.kind;
            portNumber = url.portNumber;
            opaque = url.opaque;
        }

        void useScheme(Text source, int from, int to) {
            use(SCHEME, source, from, to);
            kind = Kinds.kindOf(source, from, to);
        }

        void usePort(int number) {
            portNumber = number == Kinds.usualPort(kind) ? NONE : number;
        }

        /** False when the text has something, but not a port at its beginning. */
        boolean usePortAtBeginning(Text text) {
            if (text.count == 0) {
                portNumber = NONE;
                return true;
            }
            int end = text.digitsEnd(0, text.count);
            return end > 0 && usePortOf(text, 0, end);
        }

        boolean usePortOf(Text digits, int from, int to) {
            int number = 0;
            for (int i = from; i < to && number <= HIGHEST_PORT; i++) {
                number = number * 10 + digits.at(i) - '0';
            }
            usePort(number);
            return number <= HIGHEST_PORT;
        }

        boolean has(int part) {
            return sources[part] != null;
        }

        boolean isEmpty(int part) {
            return tos[part] <= froms[part];
        }

        boolean isSpecial() {
            return kind != NONE;
        }

        /** Only without a host can the path's beginning be taken for one. */
        boolean looksLikeHost() {
            Text path = sources[PATH];
            if (path == null || opaque || has(HOST) || tos[PATH] - froms[PATH] < 2) {
                return false;
            }
            return path.at(froms[PATH]) == '/' && path.at(froms[PATH] + 1) == '/';
        }
    }

    /** A URL as its text and where in it each part stands. */
    private static final class Url {
        final Text text = new Text(URL_ROOM);
        private final int[] froms = new int[PARTS];
        private final int[] tos = new int[PARTS];
        int kind;
        int portNumber;
        boolean opaque;
        boolean there;

        boolean has(int part) {
            return part >= 0 && part < PARTS && froms[part] >= 0;
        }

        int partFrom(int part) {
            return froms[part];
        }

        int partTo(int part) {
            return tos[part];
        }

        int textSize(boolean bare) {
            return bare && has(FRAGMENT) ? froms[FRAGMENT] - 1 : text.count;
        }

        int countInPart(int part, char c) {
            int found = 0;
            for (int i = froms[part]; i < tos[part]; i++) {
                if (text.at(i) == c) {
                    found++;
                }
            }
            return found;
        }

        void become(Url other) {
            text.become(other.text);
            for (int part = 0; part < PARTS; part++) {
                froms[part] = other.froms[part];
                tos[part] = other.tos[part];
            }
            kind = other.kind;
            portNumber = other.portNumber;
            opaque = other.opaque;
            there = other.there;
        }

        /** False when the text has not enough room. */
        boolean write(Parts parts) {
            startOver(parts);
            writePart(parts, SCHEME, CONTROL_SET);
            text.add(':');
            if (parts.has(HOST)) {
                writeAuthority(parts);
            }
            if (parts.looksLikeHost()) {
                text.add('/');
                text.add('.');
            }
            writePart(parts, PATH, CONTROL_SET);
            if (parts.has(QUERY)) {
                text.add('?');
                writePart(parts, QUERY, parts.isSpecial() ? SPECIAL_QUERY_SET : QUERY_SET);
            }
            if (parts.has(FRAGMENT)) {
                text.add('#');
                writePart(parts, FRAGMENT, FRAGMENT_SET);
            }
            froms[TEXT] = 0;
            tos[TEXT] = text.count;
            return !text.overfull;
        }

        private void startOver(Parts parts) {
            text.clear();
            for (int part = 0; part < PARTS; part++) {
                // Credentials may be empty but are never none.
                int nothing = part == USERNAME || part == PASSWORD ? 0 : NONE;
                froms[part] = nothing;
                tos[part] = nothing;
            }
            kind = parts.kind;
            portNumber = parts.portNumber;
            opaque = parts.opaque;
        }

        private void writeAuthority(Parts parts) {
            text.add('/');
            text.add('/');
            if (!parts.isEmpty(USERNAME) || !parts.isEmpty(PASSWORD)) {
                writePart(parts, USERNAME, USERINFO_SET);
                if (!parts.isEmpty(PASSWORD)) {
                    text.add(':');
                    writePart(parts, PASSWORD, USERINFO_SET);
                }
                text.add('@');
            }
            writePart(parts, HOST, CONTROL_SET);
            if (portNumber >= 0) {
                text.add(':');
                froms[PORT] = text.count;
                text.addDecimal(portNumber);
                tos[PORT] = text.count;
            }
        }

        private void writePart(Parts parts, int part, String set) {
            Text source = parts.sources[part];
            froms[part] = text.count;
            if (source != null) {
                text.addEncoded(source, parts.froms[part], parts.tos[part], set);
            }
            tos[part] = text.count;
        }
    }

    /** Reads a draft, with a base or without, into parts. */
    private static final class Reader {
        private static final int FAILS = 0;
        private static final int AUTHORITY = 1;
        private static final int ROOTED = 2;
        private static final int OPAQUE = 3;
        private static final int RELATIVE = 4;
        private static final int BASE_WITH_FRAGMENT = 5;

        final Parts parts = new Parts();
        private final Hosts hosts = new Hosts();
        private final Text input = new Text(DRAFT_ROOM);
        private final Text path = new Text(PATH_ROOM);
        private int restFrom;
        private int restTo;
        private int authorityTo;
        private int hostFrom;
        private int hostTo;

        /** False when it fails; then the parts mean nothing. */
        boolean readDraft(Text draft, Url base) {
            parts.clear();
            path.clear();
            takeTrimmed(draft);
            boolean ownScheme = cutScheme();
            if (!ownScheme && base != null) {
                parts.useScheme(base.text, base.partFrom(SCHEME), base.partTo(SCHEME));
            }
            cutQueryAndFragment();
            switch (wayOn(ownScheme, base)) {
                case AUTHORITY:
                    cutAuthority();
                    readPathBehindAuthority();
                    return readPort() && readHost();
                case ROOTED:
                    addList(restFrom + 1);
                    return true;
                case OPAQUE:
                    parts.use(PATH, input, restFrom, restTo);
                    parts.opaque = true;
                    return true;
                case RELATIVE:
                    return readRelative(base);
                case BASE_WITH_FRAGMENT:
                    return readFragmentOnly(base);
                default:
                    return false;
            }
        }

        /** The part is the whole draft less its mark, or none when the draft is empty. */
        void useTail(int part, Text draft, char mark) {
            input.becomeWithoutBreaks(draft, 0, draft.count);
            if (input.count == 0) {
                parts.drop(part);
            } else {
                parts.use(part, input, input.at(0) == mark ? 1 : 0, input.count);
            }
        }

        private void takeTrimmed(Text draft) {
            int from = 0;
            int to = draft.count;
            while (from < to && draft.at(from) <= 32) {
                from++;
            }
            while (to > from && draft.at(to - 1) <= 32) {
                to--;
            }
            input.becomeWithoutBreaks(draft, from, to);
        }

        private boolean cutScheme() {
            int i = 0;
            while (i < input.count && Chars.mayBeInScheme(input.at(i), i == 0)) {
                i++;
            }
            boolean found = i > 0 && input.at(i) == ':';
            if (found) {
                input.makeSmall(i);
                parts.useScheme(input, 0, i);
            }
            restFrom = found ? i + 1 : 0;
            return found;
        }

        private void cutQueryAndFragment() {
            int end = input.count;
            int hash = input.find('#', restFrom, end);
            if (hash < end) {
                parts.use(FRAGMENT, input, hash + 1, end);
            }
            int mark = input.find('?', restFrom, hash);
            if (mark < hash) {
                parts.use(QUERY, input, mark + 1, hash);
            }
            restTo = mark;
        }

        private boolean isSlash(int i) {
            if (i >= restTo) {
                return false;
            }
            return input.at(i) == '/' || input.at(i) == '\\' && parts.isSpecial();
        }

        private int wayOn(boolean ownScheme, Url base) {
            boolean twoSlashes = isSlash(restFrom) && isSlash(restFrom + 1);
            if (ownScheme && !parts.isSpecial()) {
                if (twoSlashes) {
                    return AUTHORITY;
                }
                return isSlash(restFrom) ? ROOTED : OPAQUE;
            }
            if (base == null) {
                return ownScheme ? AUTHORITY : FAILS;
            }
            // Here an own scheme is special, and special schemes are the same when their kinds are.
            if (ownScheme && parts.kind != base.kind) {
                return AUTHORITY;
            }
            if (base.opaque) {
                return isFragmentOnly() ? BASE_WITH_FRAGMENT : FAILS;
            }
            return twoSlashes ? AUTHORITY : RELATIVE;
        }

        private boolean isFragmentOnly() {
            return restFrom == restTo && !parts.has(QUERY) && parts.has(FRAGMENT);
        }

        private boolean readFragmentOnly(Url base) {
            if (base == null) {
                return false;
            }
            parts.useOf(base, PATH);
            parts.useOf(base, QUERY);
            parts.opaque = true;
            return true;
        }

        private boolean readRelative(Url base) {
            if (base == null) {
                return false;
            }
            parts.useOf(base, USERNAME);
            parts.useOf(base, PASSWORD);
            parts.useOf(base, HOST);
            parts.portNumber = base.portNumber;
            if (isSlash(restFrom)) {
                addList(restFrom + 1);
            } else if (restFrom < restTo) {
                path.addEncoded(base.text, base.partFrom(PATH), base.partTo(PATH), PATH_SET);
                dropLastSegment();
                addList(restFrom);
            } else {
                parts.useOf(base, PATH);
                if (!parts.has(QUERY)) {
                    parts.useOf(base, QUERY);
                }
            }
            return true;
        }

        private void cutAuthority() {
            skipSlashes();
            authorityTo = restFrom;
            while (authorityTo < restTo && !isSlash(authorityTo)) {
                authorityTo++;
            }
            cutCredentials();
            hostTo = hostEnd();
        }

        private void skipSlashes() {
            if (!parts.isSpecial()) {
                restFrom += 2;
                return;
            }
            while (restFrom < restTo && isSlash(restFrom)) {
                restFrom++;
            }
        }

        private void cutCredentials() {
            hostFrom = authorityTo;
            while (hostFrom > restFrom && input.at(hostFrom - 1) != '@') {
                hostFrom--;
            }
            if (hostFrom == restFrom) {
                return;
            }
            int at = hostFrom - 1;
            int colon = input.find(':', restFrom, at);
            parts.use(USERNAME, input, restFrom, colon);
            if (colon < at) {
                parts.use(PASSWORD, input, colon + 1, at);
            }
        }

        private int hostEnd() {
            boolean bracketed = false;
            for (int i = hostFrom; i < authorityTo; i++) {
                int c = input.at(i);
                if (c == ':' && !bracketed) {
                    return i;
                }
                if (c == '[' || c == ']') {
                    bracketed = c == '[';
                }
            }
            return authorityTo;
        }

        private boolean readPort() {
            int digitsFrom = hostTo + 1;
            if (digitsFrom >= authorityTo) {
                return true;
            }
            if (input.digitsEnd(digitsFrom, authorityTo) < authorityTo) {
                return false;
            }
            return parts.usePortOf(input, digitsFrom, authorityTo);
        }

        private boolean readHost() {
            if (hostFrom == hostTo) {
                boolean alone = hostFrom == restFrom && hostTo == authorityTo;
                parts.use(HOST, input, hostFrom, hostTo);
                return alone && !parts.isSpecial();
            }
            if (!hosts.readHost(input, hostFrom, hostTo, parts.isSpecial())) {
                return false;
            }
            parts.use(HOST, hosts.host, 0, hosts.host.count);
            return true;
        }

        private void readPathBehindAuthority() {
            if (authorityTo < restTo) {
                addList(authorityTo + 1);
                return;
            }
            if (parts.isSpecial()) {
                path.add('/');
            }
            parts.use(PATH, path, 0, path.count);
        }

        /** Goes on from the segments that the path has. */
        private void addList(int from) {
            int pieceFrom = from;
            for (int i = from; i <= restTo; i++) {
                if (i == restTo || isSlash(i)) {
                    addPiece(pieceFrom, i);
                    pieceFrom = i + 1;
                }
            }
            parts.use(PATH, path, 0, path.count);
        }

        private void addPiece(int from, int to) {
            int dots = dotsIn(from, to);
            if (dots == 0) {
                path.add('/');
                path.addEncoded(input, from, to, PATH_SET);
                return;
            }
            if (dots == 2) {
                dropLastSegment();
            }
            if (to == restTo) {
                path.add('/');
            }
        }

        /** 1 for a dot, 2 for a double dot, 0 for any other piece. */
        private int dotsIn(int from, int to) {
            int dots = 0;
            int i = from;
            while (i < to && dots < 3) {
                if (input.at(i) == '.') {
                    i++;
                } else if (input.escapedByte(i, to) == '.') {
                    i += 3;
                } else {
                    return 0;
                }
                dots++;
            }
            return dots < 3 ? dots : 0;
        }

        private void dropLastSegment() {
            int slash = path.count - 1;
            while (slash > 0 && path.at(slash) != '/') {
                slash--;
            }
            path.keep(slash);
        }
    }

    /** Reads host texts. */
    private static final class Hosts {
        // Above every number that four bytes can be, and low enough to be multiplied by 16.
        private static final long TOO_HIGH = 1L << 40;

        final Text host = new Text(2 * DRAFT_ROOM);
        private final EightPieces eightPieces = new EightPieces();
        private int partsTo;

        /** False when it fails; then the host means nothing. */
        boolean readHost(Text input, int from, int to, boolean special) {
            host.clear();
            if (input.at(from) == '[') {
                if (input.at(to - 1) != ']' || !eightPieces.readPieces(input, from + 1, to - 1)) {
                    return false;
                }
                eightPieces.writeTo(host);
                return true;
            }
            if (!special) {
                return readFree(input, from, to);
            }
            if (!readDomain(input, from, to)) {
                return false;
            }
            leaveOutEmptyLastPart();
            return !endsInNumber() || readFourNumbers();
        }

        private boolean readFree(Text input, int from, int to) {
            for (int i = from; i < to; i++) {
                if (!Chars.mayBeInFreeHost(input.at(i))) {
                    return false;
                }
                host.add(input.at(i));
            }
            return true;
        }

        private boolean readDomain(Text input, int from, int to) {
            int i = from;
            while (i < to) {
                int escaped = input.escapedByte(i, to);
                // A character of two bytes needs no cutting up: it is refused as its bytes would be.
                int c = escaped >= 0 ? escaped : input.at(i);
                if (!Chars.mayBeInDomain(c)) {
                    return false;
                }
                host.add(Chars.small(c));
                i += escaped >= 0 ? 3 : 1;
            }
            return host.count > 0;
        }

        private void leaveOutEmptyLastPart() {
            partsTo = host.at(host.count - 1) == '.' ? host.count - 1 : host.count;
        }

        private boolean endsInNumber() {
            int from = partsTo;
            while (from > 0 && host.at(from - 1) != '.') {
                from--;
            }
            if (from == partsTo) {
                return false;
            }
            return host.digitsEnd(from, partsTo) == partsTo || numberIn(from, partsTo) >= 0;
        }

        private boolean readFourNumbers() {
            long address = 0;
            int from = 0;
            for (int n = 1; n <= 4; n++) {
                int to = host.find('.', from, partsTo);
                boolean last = to == partsTo;
                int bytes = last ? 5 - n : 1;
                long number = numberIn(from, to);
                if (number < 0 || number >= 1L << 8 * bytes) {
                    return false;
                }
                address = (address << 8 * bytes) + number;
                if (last) {
                    writeFourNumbers(address);
                    return true;
                }
                from = to + 1;
            }
            return false;
        }

        private void writeFourNumbers(long address) {
            host.clear();
            for (int shift = 24; shift >= 0; shift -= 8) {
                host.addDecimal((int) (address >> shift & 255));
                if (shift > 0) {
                    host.add('.');
                }
            }
        }

        /** The value of a number, or NONE when it is not one. */
        private long numberIn(int from, int to) {
            if (from >= to) {
                return NONE;
            }
            int base = 10;
            int digitsFrom = from;
            if (host.at(from) == '0' && to - from > 1) {
                base = host.at(from + 1) == 'x' ? 16 : 8;
                digitsFrom = base == 16 ? from + 2 : from + 1;
            }
            long value = 0;
            for (int i = digitsFrom; i < to; i++) {
                int digit = Chars.hexValue(host.at(i));
                if (digit < 0 || digit >= base) {
                    return NONE;
                }
                value = Math.min(value * base + digit, TOO_HIGH);
            }
            return value;
        }
    }

    /** Reads what stands between the brackets of a host, and writes it with them. */
    private static final class EightPieces {
        private static final int ALL = 8;

        private final int[] pieces = new int[ALL];
        private int found;
        // How many pieces stand before the double colon, or NONE without one.
        private int gap;

        boolean readPieces(Text input, int from, int to) {
            found = 0;
            gap = NONE;
            int i = from;
            if (input.at(i) == ':') {
                if (i + 1 >= to || input.at(i + 1) != ':') {
                    return false;
                }
                gap = 0;
                i += 2;
            }
            for (int n = 0; n <= ALL && i < to; n++) {
                int end = hexadecimalEnd(input, i, to);
                if (end < to && input.at(end) == '.') {
                    return readFourNumbers(input, i, to) && fillGap();
                }
                if (!readPiece(input, i, end)) {
                    return false;
                }
                if (end == to) {
                    break;
                }
                i = behindColons(input, end, to);
                if (i < 0) {
                    return false;
                }
            }
            return fillGap();
        }

        private int hexadecimalEnd(Text input, int from, int to) {
            int i = from;
            while (i < to && Chars.hexValue(input.at(i)) >= 0) {
                i++;
            }
            return i;
        }

        private boolean readPiece(Text input, int from, int to) {
            if (to - from < 1 || to - from > 4) {
                return false;
            }
            int piece = 0;
            for (int i = from; i < to; i++) {
                piece = piece * 16 + Chars.hexValue(input.at(i));
            }
            return addPiece(piece);
        }

        private boolean addPiece(int piece) {
            if (found >= ALL) {
                return false;
            }
            pieces[found] = piece;
            found++;
            return true;
        }

        /** Where the next piece begins behind one colon or two, or NONE when that is not allowed. */
        private int behindColons(Text input, int i, int to) {
            if (input.at(i) != ':' || i + 1 >= to) {
                return NONE;
            }
            if (input.at(i + 1) != ':') {
                return i + 1;
            }
            if (gap >= 0) {
                return NONE;
            }
            gap = found;
            return i + 2;
        }

        private boolean readFourNumbers(Text input, int from, int to) {
            int i = from;
            int high = 0;
            for (int n = 1; n <= 4; n++) {
                int end = input.digitsEnd(i, to);
                int number = byteIn(input, i, end);
                boolean endsWell = n == 4 ? end == to : end < to && input.at(end) == '.';
                if (number < 0 || !endsWell) {
                    return false;
                }
                if (n % 2 == 0 && !addPiece(high * 256 + number)) {
                    return false;
                }
                high = number;
                i = end + 1;
            }
            return true;
        }

        private int byteIn(Text input, int from, int to) {
            int digits = to - from;
            if (digits < 1 || digits > 3 || digits > 1 && input.at(from) == '0') {
                return NONE;
            }
            int number = 0;
            for (int i = from; i < to; i++) {
                number = number * 10 + input.at(i) - '0';
            }
            return number < 256 ? number : NONE;
        }

        private boolean fillGap() {
            if (gap < 0) {
                return found == ALL;
            }
            if (found >= ALL) {
                return false;
            }
            int moved = found - gap;
            for (int i = 1; i <= moved; i++) {
                pieces[ALL - i] = pieces[found - i];
            }
            for (int i = gap; i < ALL - moved; i++) {
                pieces[i] = 0;
            }
            return true;
        }

        void writeTo(Text text) {
            int rowFrom = longestRow();
            int rowTo = rowEnd(rowFrom);
            text.add('[');
            for (int i = 0; i < ALL; i++) {
                boolean leftOut = i >= rowFrom && i < rowTo;
                // The row's second colon is the one that its end puts before the next piece.
                if (i == rowFrom || !leftOut && i > 0) {
                    text.add(':');
                }
                if (!leftOut) {
                    text.addHexadecimal(pieces[i]);
                }
            }
            if (rowTo == ALL) {
                text.add(':');
            }
            text.add(']');
        }

        /** Where the longest row of two or more pieces 0 begins, or NONE. */
        private int longestRow() {
            int best = NONE;
            int bestSize = 1;
            for (int i = 0; i < ALL; i++) {
                int size = rowEnd(i) - i;
                if (size > bestSize) {
                    best = i;
                    bestSize = size;
                }
            }
            return best;
        }

        private int rowEnd(int from) {
            int i = from;
            while (i >= 0 && i < ALL && pieces[i] == 0) {
                i++;
            }
            return i;
        }
    }

    /** Goes over the pairs of a query, one after the other. */
    private static final class PairWalk {
        private Text text;
        private int from;
        private int to;
        private int queryTo;

        /** Before the first pair; without a URL or query there is none. */
        void startAt(Url url) {
            boolean found = url != null && url.has(QUERY);
            text = found ? url.text : null;
            to = found ? url.partFrom(QUERY) - 1 : 0;
            queryTo = found ? url.partTo(QUERY) : 0;
        }

        boolean goOn() {
            if (text == null) {
                return false;
            }
            from = to + 1;
            while (from < queryTo && text.at(from) == '&') {
                from++;
            }
            to = text.find('&', from, queryTo);
            return from < to;
        }

        int byteAt(boolean value, int i) {
            if (text == null) {
                return NONE;
            }
            int equalsSign = text.find('=', from, to);
            int end = value ? to : equalsSign;
            int at = value ? equalsSign + 1 : from;
            int seen = 0;
            while (at < end) {
                int escaped = text.escapedByte(at, end);
                if (seen == i) {
                    return escaped >= 0 ? escaped : plusAsSpace(text.at(at));
                }
                seen++;
                at += escaped >= 0 ? 3 : 1;
            }
            return NONE;
        }

        private static int plusAsSpace(int c) {
            return c == '+' ? ' ' : c;
        }
    }
}
