/** Cuts markup into tokens, tells its faults, and writes tokens again, as DOC.md promises. */
public final class MarkupTokens {
    public static final int BAD = -1, FULL = -2;
    public static final int TEXT = 0, START = 1, STOP = 2, COMMENT = 3, DOCTYPE = 4;

    private static final int MOST_BYTES = 400;
    private static final int WORD_BYTES = 8;
    private static final int END = -1;
    private static final int UNKNOWN = 65533;

    private final byte[] text;
    private int textLength;
    private final Source source;
    private final Tokens tokens;
    private final Reader reader;
    private final Out out;

    public MarkupTokens() {
        text = new byte[MOST_BYTES];
        textLength = 0;
        source = new Source();
        tokens = new Tokens();
        reader = new Reader(source, tokens);
        out = new Out(tokens);
    }

    public int feed(long bytes, int n) {
        if (n < 1 || n > WORD_BYTES) {
            return BAD;
        }
        if (textLength + n > MOST_BYTES) {
            return FULL;
        }
        for (int k = 0; k < n; k++) {
            text[textLength + k] = (byte) (bytes >> (8 * k));
        }
        textLength += n;
        return textLength;
    }

    public int clear() {
        int had = textLength;
        textLength = 0;
        return had;
    }

    public int again() {
        int length = out.length();
        if (length > MOST_BYTES) {
            return FULL;
        }
        out.copyTo(text);
        textLength = length;
        return length;
    }

    public int run() {
        source.open(text, textLength);
        tokens.forget();
        reader.cut();
        return tokens.count();
    }

    public int token(int i, int what) {
        if (!tokens.has(i)) {
            return BAD;
        }
        switch (what) {
            case 0:
                return tokens.kind(i);
            case 1:
                return tokens.length(i);
            case 2:
                return tokens.mark(i);
            case 3:
                return tokens.attributes(i);
            default:
                return BAD;
        }
    }

    public int at(int i, int k) {
        if (!tokens.has(i) || k < 0 || k >= tokens.length(i)) {
            return BAD;
        }
        return tokens.character(i, k);
    }

    public int size(int i, int a, int what) {
        if (!tokens.hasAttribute(i, a)) {
            return BAD;
        }
        switch (what) {
            case 0:
                return tokens.nameLength(i, a);
            case 1:
                return tokens.valueLength(i, a);
            default:
                return BAD;
        }
    }

    public int part(int i, int a, int what, int k) {
        int length = size(i, a, what);
        if (k < 0 || k >= length) {
            return BAD;
        }
        return what == 0 ? tokens.nameCharacter(i, a, k) : tokens.valueCharacter(i, a, k);
    }

    public int faults() {
        return source.faultCount();
    }

    public int fault(int k, int what) {
        if (k < 0 || k >= source.faultCount()) {
            return BAD;
        }
        switch (what) {
            case 0:
                return source.faultCode(k);
            case 1:
                return source.faultPlace(k);
            default:
                return BAD;
        }
    }

    public int write() {
        out.putAll();
        return out.length();
    }

    public long word(int i) {
        long first = (long) WORD_BYTES * i;
        long bytes = 0;
        for (int k = 0; k < WORD_BYTES; k++) {
            bytes |= out.byteAt(first + k) << (8 * k);
        }
        return bytes;
    }

    private static boolean isLetter(int c) {
        return c >= 'A' && c <= 'Z' || c >= 'a' && c <= 'z';
    }

    private static boolean isLetterOrDigit(int c) {
        return isLetter(c) || c >= '0' && c <= '9';
    }

    private static boolean isBlank(int c) {
        return c == 10 || c == 9 || c == 12 || c == 32;
    }

    private static int lowered(int c) {
        return c >= 'A' && c <= 'Z' ? c + ('a' - 'A') : c;
    }

    /** The ways of the document, those of a reference, and OVER: nothing is read any more. */
    private enum Way {
        DATA, TAG, ENDTAG,
        REFERENCE, NAMED, UNNAMED, NUMBERED,
        NAME, BEFORE, ATTRIBUTE, AFTER, VALUE, QUOTED, UNQUOTED, BEHIND, SELF,
        MARK, BOGUS,
        COMMENTSTART, STARTDASH, COMMENT, COMMENTDASH, COMMENTEND, COMMENTBANG,
        DOCTYPE, DOCTYPEBEFORE, DOCTYPENAME, DOCTYPEAFTER, DOCTYPEODD,
        OVER
    }

    /** The characters of the text, the place of c, and the faults that were told of them. */
    private static final class Source {
        // One character is read by a few ways in turn, and told at most three faults there.
        private static final int MOST_FAULTS = 3 * (MOST_BYTES + 1);

        private final int[] characters = new int[MOST_BYTES];
        private int count = 0;
        private int place = 0;
        private final int[] codes = new int[MOST_FAULTS];
        private final int[] places = new int[MOST_FAULTS];
        private int faultCount = 0;

        void open(byte[] bytes, int length) {
            place = 0;
            count = 0;
            faultCount = 0;
            for (int k = 0; k < length; k++) {
                boolean leftOut = bytes[k] == 13 && k + 1 < length && bytes[k + 1] == 10;
                if (!leftOut) {
                    characters[count] = bytes[k] == 13 ? 10 : bytes[k] & 255;
                    count++;
                }
            }
        }

        int next() {
            return character(place);
        }

        int character(int where) {
            return where >= 0 && where < count ? characters[where] : END;
        }

        int place() {
            return place;
        }

        void skip(int howMany) {
            place = Math.min(place + howMany, count);
        }

        /** Reads c and goes on by the way; a way that is answered without this reads c again. */
        Way then(Way way) {
            if (place < count) {
                place++;
            }
            return way;
        }

        /** Tells a fault at the place of c; the codes are the numbers that the document gives. */
        void wrong(int code) {
            if (faultCount < MOST_FAULTS) {
                codes[faultCount] = code;
                places[faultCount] = place;
                faultCount++;
            }
        }

        int faultCount() {
            return faultCount;
        }

        int faultCode(int k) {
            return codes[k];
        }

        int faultPlace(int k) {
            return places[k];
        }
    }

    /**
     * The tokens of the latest run. All their characters stand in one row, in the order of the
     * text; the token at hand is the one behind those that were told, and so is its attribute.
     */
    private static final class Tokens {
        // Each token, attribute and character of theirs takes a character of the text at least.
        private static final int MOST = MOST_BYTES;

        private final int[] row = new int[MOST];
        private int used = 0;
        private final int[] kinds = new int[MOST];
        private final int[] starts = new int[MOST];
        private final int[] ends = new int[MOST];
        private final int[] marks = new int[MOST];
        private final int[] firstAttributes = new int[MOST];
        private final int[] attributeCounts = new int[MOST];
        private int count = 0;
        private boolean inText = false;
        private final int[] nameStarts = new int[MOST];
        private final int[] valueStarts = new int[MOST];
        private final int[] valueEnds = new int[MOST];
        private int attributesUsed = 0;
        private boolean inAttribute = false;

        void forget() {
            used = 0;
            count = 0;
            inText = false;
            attributesUsed = 0;
            inAttribute = false;
        }

        void begin(int kind) {
            endText();
            open(kind);
        }

        private void open(int kind) {
            if (count < MOST) {
                kinds[count] = kind;
                starts[count] = used;
                marks[count] = 0;
                firstAttributes[count] = attributesUsed;
                attributeCounts[count] = 0;
            }
        }

        /** Characters that are added from here on come to the text. */
        void beginText() {
            if (!inText) {
                inText = true;
                open(TEXT);
            }
        }

        void endText() {
            if (inText && count < MOST) {
                ends[count] = used;
                count++;
            }
            inText = false;
        }

        /** Adds to what is at hand: the token, its name, or its attribute's name or value. */
        void add(int c) {
            if (used < MOST) {
                row[used] = c;
                used++;
            }
        }

        /** What is added from here on comes no longer to the token itself, or its name. */
        void endOwn() {
            if (count < MOST) {
                ends[count] = used;
            }
        }

        void tell() {
            if (count < MOST) {
                count++;
            }
        }

        void setMark(int mark) {
            if (count < MOST) {
                marks[count] = mark;
            }
        }

        boolean isMarked() {
            return count < MOST && marks[count] == 1;
        }

        boolean isStop() {
            return count < MOST && kinds[count] == STOP;
        }

        boolean hasAttributes() {
            return count < MOST && attributeCounts[count] > 0;
        }

        void dropAttributes() {
            if (count < MOST) {
                attributeCounts[count] = 0;
            }
        }

        void beginAttribute() {
            endAttribute();
            inAttribute = true;
            if (attributesUsed < MOST) {
                nameStarts[attributesUsed] = used;
            }
        }

        void endAttributeName() {
            if (attributesUsed < MOST) {
                valueStarts[attributesUsed] = used;
            }
        }

        void endAttribute() {
            if (inAttribute && count < MOST && attributesUsed < MOST) {
                valueEnds[attributesUsed] = used;
                attributesUsed++;
                attributeCounts[count]++;
            }
            inAttribute = false;
        }

        /** The attribute at hand is never ended then: the next one takes its room. */
        void loseAttribute() {
            inAttribute = false;
        }

        /** Whether the tag has an attribute before that at hand with the same name. */
        boolean stoodBefore() {
            if (count >= MOST || attributesUsed >= MOST) {
                return false;
            }
            for (int a = firstAttributes[count]; a < attributesUsed; a++) {
                if (sameName(a, attributesUsed)) {
                    return true;
                }
            }
            return false;
        }

        private boolean sameName(int a, int b) {
            int length = valueStarts[a] - nameStarts[a];
            if (length != valueStarts[b] - nameStarts[b]) {
                return false;
            }
            for (int k = 0; k < length; k++) {
                if (row[nameStarts[a] + k] != row[nameStarts[b] + k]) {
                    return false;
                }
            }
            return true;
        }

        int count() {
            return count;
        }

        boolean has(int i) {
            return i >= 0 && i < count;
        }

        int kind(int i) {
            return kinds[i];
        }

        int length(int i) {
            return ends[i] - starts[i];
        }

        int character(int i, int k) {
            return row[starts[i] + k];
        }

        int mark(int i) {
            return marks[i];
        }

        int attributes(int i) {
            return attributeCounts[i];
        }

        boolean hasAttribute(int i, int a) {
            return has(i) && a >= 0 && a < attributeCounts[i];
        }

        int nameLength(int i, int a) {
            int own = firstAttributes[i] + a;
            return valueStarts[own] - nameStarts[own];
        }

        int nameCharacter(int i, int a, int k) {
            return row[nameStarts[firstAttributes[i] + a] + k];
        }

        int valueLength(int i, int a) {
            int own = firstAttributes[i] + a;
            return valueEnds[own] - valueStarts[own];
        }

        int valueCharacter(int i, int a, int k) {
            return row[valueStarts[firstAttributes[i] + a] + k];
        }
    }

    /** The names of references; those that are not free stand with a semicolon alone. */
    private enum Named {
        AMP("amp", 38, true), GREAT_AMP("AMP", 38, true),
        LT("lt", 60, true), GREAT_LT("LT", 60, true),
        GT("gt", 62, true), GREAT_GT("GT", 62, true),
        QUOT("quot", 34, true), GREAT_QUOT("QUOT", 34, true),
        NBSP("nbsp", 160, true),
        COPY("copy", 169, true), GREAT_COPY("COPY", 169, true),
        REG("reg", 174, true), GREAT_REG("REG", 174, true),
        NOT("not", 172, true), SHY("shy", 173, true), YEN("yen", 165, true),
        DEG("deg", 176, true), TIMES("times", 215, true), PARA("para", 182, true),
        SUP2("sup2", 178, true), FRAC12("frac12", 189, true),
        APOS("apos", 39, false), NUM("num", 35, false),
        NOTIN("notin", 8713, false), NOTNI("notni", 8716, false),
        TIMESB("timesb", 8864, false), COPYSR("copysr", 8471, false),
        HELLIP("hellip", 8230, false), EURO("euro", 8364, false),
        NE("ne", 8800, false), LE("le", 8804, false), PAR("par", 8741, false);

        private static final Named[] ALL = values();

        private final String letters;
        private final int given;
        private final boolean free;

        Named(String letters, int given, boolean free) {
            this.letters = letters;
            this.given = given;
            this.free = free;
        }

        /** How many characters this name has from that place on; 0: it does not stand there. */
        int lengthIn(Source source, int start) {
            int length = letters.length();
            for (int k = 0; k < length; k++) {
                if (source.character(start + k) != letters.charAt(k)) {
                    return 0;
                }
            }
            if (source.character(start + length) == ';') {
                return length + 1;
            }
            return free ? length : 0;
        }
    }

    /** What the ways of all kinds of tokens share. */
    private abstract static class Ways {
        final Source source;
        final Tokens tokens;

        Ways(Source source, Tokens tokens) {
            this.source = source;
            this.tokens = tokens;
        }

        final void addKnown(int c) {
            if (c == 0) {
                source.wrong(1);
                tokens.add(UNKNOWN);
            } else {
                tokens.add(c);
            }
        }

        final Way done() {
            tokens.endOwn();
            tokens.tell();
            return source.then(Way.DATA);
        }

        final Way toldAtEnd() {
            tokens.endOwn();
            tokens.tell();
            return Way.OVER;
        }
    }

    /** The ways of what stands behind a &. */
    private static final class ReferenceWays extends Ways {
        private static final int LAST_NUMBER = 1114111;
        private static final int NO_DIGIT = 16;
        private static final int FIRST_REPLACED = 128;
        private static final int[] REPLACED = {
            8364, 129, 8218, 402, 8222, 8230, 8224, 8225, 710, 8240, 352, 8249, 338, 141, 381, 143,
            144, 8216, 8217, 8220, 8221, 8226, 8211, 8212, 732, 8482, 353, 8250, 339, 157, 382, 376
        };

        private Way back = Way.DATA;

        ReferenceWays(Source source, Tokens tokens) {
            super(source, tokens);
        }

        /** Reads the &; what the reference gives is added to what is at hand, then that way comes. */
        Way open(Way then) {
            back = then;
            return source.then(Way.REFERENCE);
        }

        Way start(int c) {
            if (c == '#') {
                return Way.NUMBERED;
            }
            if (isLetterOrDigit(c)) {
                return Way.NAMED;
            }
            tokens.add('&');
            return back;
        }

        private Named longestName() {
            Named longest = null;
            int length = 0;
            for (Named named : Named.ALL) {
                int own = named.lengthIn(source, source.place());
                if (own > length) {
                    longest = named;
                    length = own;
                }
            }
            return longest;
        }

        Way named() {
            Named name = longestName();
            if (name == null) {
                return Way.UNNAMED;
            }
            int start = source.place();
            source.skip(name.lengthIn(source, start));
            boolean closed = source.character(source.place() - 1) == ';';
            if (!closed && back != Way.DATA && goesOn(source.next())) {
                addAsItIs(start);
                return back;
            }
            if (!closed) {
                source.wrong(25);
            }
            tokens.add(name.given);
            return back;
        }

        private static boolean goesOn(int c) {
            return isLetterOrDigit(c) || c == '=';
        }

        private void addAsItIs(int start) {
            tokens.add('&');
            int end = source.place();
            for (int where = start; where < end; where++) {
                tokens.add(source.character(where));
            }
        }

        Way unnamed() {
            int start = source.place();
            for (int k = 0; k < MOST_BYTES && isLetterOrDigit(source.next()); k++) {
                source.skip(1);
            }
            addAsItIs(start);
            if (source.next() == ';') {
                source.wrong(26);
            }
            return back;
        }

        Way numbered() {
            int start = source.place();
            source.skip(1);
            int base = 10;
            if (lowered(source.next()) == 'x') {
                base = 16;
                source.skip(1);
            }
            int firstDigit = source.place();
            int number = readDigits(base);
            if (source.place() == firstDigit) {
                source.wrong(27);
                addAsItIs(start);
                return back;
            }
            if (source.next() == ';') {
                source.skip(1);
            } else {
                source.wrong(25);
            }
            tokens.add(characterOf(number));
            return back;
        }

        private int readDigits(int base) {
            int number = 0;
            for (int k = 0; k < MOST_BYTES; k++) {
                int digit = digitOf(source.next());
                if (digit >= base) {
                    break;
                }
                // All numbers above the last one give the same, so they need not grow further.
                number = Math.min(number * base + digit, LAST_NUMBER + 1);
                source.skip(1);
            }
            return number;
        }

        private static int digitOf(int c) {
            if (c >= '0' && c <= '9') {
                return c - '0';
            }
            int small = lowered(c);
            return small >= 'a' && small <= 'f' ? small - 'a' + 10 : NO_DIGIT;
        }

        private int characterOf(int number) {
            if (number == 0) {
                source.wrong(28);
                return UNKNOWN;
            }
            if (number > LAST_NUMBER) {
                source.wrong(29);
                return UNKNOWN;
            }
            if (number >= 55296 && number <= 57343) {
                source.wrong(30);
                return UNKNOWN;
            }
            if (isNoCharacter(number)) {
                source.wrong(31);
                return number;
            }
            if (isControl(number)) {
                source.wrong(32);
                return replaced(number);
            }
            return number;
        }

        private static boolean isNoCharacter(int number) {
            return number >= 64976 && number <= 65007 || (number & 65535) >= 65534;
        }

        private static boolean isControl(int number) {
            return number >= 127 && number <= 159 || number < 32 && !isBlank(number);
        }

        private static int replaced(int number) {
            int k = number - FIRST_REPLACED;
            return k >= 0 && k < REPLACED.length ? REPLACED[k] : number;
        }
    }

    /** The ways outside of tokens, and the choice among all ways. */
    private static final class Reader extends Ways {
        // Some five ways read a character at most: this many steps are far above any run's.
        private static final int MOST_STEPS = 100000;
        private static final String DOCTYPE_LETTERS = "doctype";

        private final ReferenceWays references;
        private final TagWays tags;
        private final CommentWays comments;
        private final DoctypeWays doctypes;

        Reader(Source source, Tokens tokens) {
            super(source, tokens);
            references = new ReferenceWays(source, tokens);
            tags = new TagWays(source, tokens, references);
            comments = new CommentWays(source, tokens);
            doctypes = new DoctypeWays(source, tokens);
        }

        void cut() {
            Way way = Way.DATA;
            for (int steps = 0; steps < MOST_STEPS && way != Way.OVER; steps++) {
                way = follow(way, source.next());
            }
            tokens.endText();
        }

        private Way follow(Way way, int c) {
            switch (way) {
                case DATA: return data(c);
                case TAG: return tag(c);
                case ENDTAG: return endTag(c);
                case REFERENCE: return references.start(c);
                case NAMED: return references.named();
                case UNNAMED: return references.unnamed();
                case NUMBERED: return references.numbered();
                case NAME: return tags.name(c);
                case BEFORE: return tags.before(c);
                case ATTRIBUTE: return tags.attribute(c);
                case AFTER: return tags.after(c);
                case VALUE: return tags.value(c);
                case QUOTED: return tags.quoted(c);
                case UNQUOTED: return tags.unquoted(c);
                case BEHIND: return tags.behind(c);
                case SELF: return tags.self(c);
                case MARK: return mark(c);
                case BOGUS: return comments.bogus(c);
                case COMMENTSTART: return comments.start(c);
                case STARTDASH: return comments.startDash(c);
                case COMMENT: return comments.inside(c);
                case COMMENTDASH: return comments.dash(c);
                case COMMENTEND: return comments.end(c);
                case COMMENTBANG: return comments.bang(c);
                case DOCTYPE: return doctypes.start(c);
                case DOCTYPEBEFORE: return doctypes.before(c);
                case DOCTYPENAME: return doctypes.name(c);
                case DOCTYPEAFTER: return doctypes.after(c);
                case DOCTYPEODD: return doctypes.odd(c);
                default: return Way.OVER;
            }
        }

        private void addToText(int c) {
            tokens.beginText();
            tokens.add(c);
        }

        private Way bogus() {
            tokens.begin(COMMENT);
            return Way.BOGUS;
        }

        private Way data(int c) {
            switch (c) {
                case '&':
                    tokens.beginText();
                    return references.open(Way.DATA);
                case '<':
                    return source.then(Way.TAG);
                case END:
                    return Way.OVER;
                case 0:
                    source.wrong(1);
                    break;
                default:
                    break;
            }
            addToText(c);
            return source.then(Way.DATA);
        }

        private Way tag(int c) {
            if (isLetter(c)) {
                tokens.begin(START);
                return Way.NAME;
            }
            switch (c) {
                case '!':
                    return source.then(Way.MARK);
                case '/':
                    return source.then(Way.ENDTAG);
                case '?':
                    source.wrong(2);
                    return bogus();
                case END:
                    source.wrong(3);
                    addToText('<');
                    return Way.OVER;
                default:
                    source.wrong(4);
                    addToText('<');
                    return Way.DATA;
            }
        }

        private Way endTag(int c) {
            if (isLetter(c)) {
                tokens.begin(STOP);
                return Way.NAME;
            }
            switch (c) {
                case '>':
                    source.wrong(5);
                    return source.then(Way.DATA);
                case END:
                    source.wrong(3);
                    addToText('<');
                    addToText('/');
                    return Way.OVER;
                default:
                    source.wrong(4);
                    return bogus();
            }
        }

        private Way mark(int c) {
            if (c == '-' && source.character(source.place() + 1) == '-') {
                source.skip(2);
                tokens.begin(COMMENT);
                return Way.COMMENTSTART;
            }
            if (doctypeComes()) {
                source.skip(DOCTYPE_LETTERS.length());
                return Way.DOCTYPE;
            }
            source.wrong(16);
            return bogus();
        }

        private boolean doctypeComes() {
            for (int k = 0; k < DOCTYPE_LETTERS.length(); k++) {
                int c = source.character(source.place() + k);
                if (lowered(c) != DOCTYPE_LETTERS.charAt(k)) {
                    return false;
                }
            }
            return true;
        }
    }

    /** The ways inside a tag. */
    private static final class TagWays extends Ways {
        private final ReferenceWays references;
        private int quote = '"';

        TagWays(Source source, Tokens tokens, ReferenceWays references) {
            super(source, tokens);
            this.references = references;
        }

        private static boolean endsName(int c) {
            return isBlank(c) || c == '/' || c == '>' || c == END;
        }

        /** For a c that ends a name, where nothing but an attribute may come. */
        private Way leave(int c) {
            switch (c) {
                case '/':
                    return source.then(Way.SELF);
                case '>':
                    return tagDone();
                case END:
                    return dropped();
                default:
                    return source.then(Way.BEFORE);
            }
        }

        private Way dropped() {
            source.wrong(6);
            return Way.OVER;
        }

        private Way tagDone() {
            tokens.endAttribute();
            if (tokens.isStop()) {
                if (tokens.hasAttributes()) {
                    source.wrong(14);
                }
                if (tokens.isMarked()) {
                    source.wrong(15);
                }
                tokens.dropAttributes();
                tokens.setMark(0);
            }
            tokens.tell();
            return source.then(Way.DATA);
        }

        Way name(int c) {
            if (endsName(c)) {
                tokens.endOwn();
                return leave(c);
            }
            addKnown(lowered(c));
            return source.then(Way.NAME);
        }

        Way before(int c) {
            if (isBlank(c)) {
                return source.then(Way.BEFORE);
            }
            if (endsName(c)) {
                return Way.AFTER;
            }
            tokens.beginAttribute();
            if (c == '=') {
                source.wrong(7);
                tokens.add(c);
                return source.then(Way.ATTRIBUTE);
            }
            return Way.ATTRIBUTE;
        }

        Way attribute(int c) {
            if (endsName(c)) {
                leaveAttributeName();
                return Way.AFTER;
            }
            if (c == '=') {
                leaveAttributeName();
                return source.then(Way.VALUE);
            }
            if (c == '"' || c == '\'' || c == '<') {
                source.wrong(8);
            }
            addKnown(lowered(c));
            return source.then(Way.ATTRIBUTE);
        }

        private void leaveAttributeName() {
            tokens.endAttributeName();
            if (tokens.stoodBefore()) {
                source.wrong(9);
                tokens.loseAttribute();
            }
        }

        Way after(int c) {
            if (isBlank(c)) {
                return source.then(Way.AFTER);
            }
            if (endsName(c)) {
                return leave(c);
            }
            if (c == '=') {
                return source.then(Way.VALUE);
            }
            tokens.beginAttribute();
            return Way.ATTRIBUTE;
        }

        Way value(int c) {
            if (isBlank(c)) {
                return source.then(Way.VALUE);
            }
            switch (c) {
                case '"':
                case '\'':
                    quote = c;
                    return source.then(Way.QUOTED);
                case '>':
                    source.wrong(10);
                    return tagDone();
                default:
                    return Way.UNQUOTED;
            }
        }

        Way quoted(int c) {
            if (c == quote) {
                return source.then(Way.BEHIND);
            }
            switch (c) {
                case '&':
                    return references.open(Way.QUOTED);
                case END:
                    return dropped();
                default:
                    addKnown(c);
                    return source.then(Way.QUOTED);
            }
        }

        Way unquoted(int c) {
            if (isBlank(c)) {
                return source.then(Way.BEFORE);
            }
            switch (c) {
                case '&':
                    return references.open(Way.UNQUOTED);
                case '>':
                    return tagDone();
                case END:
                    return dropped();
                case '"':
                case '\'':
                case '<':
                case '=':
                case '`':
                    source.wrong(11);
                    break;
                default:
                    break;
            }
            addKnown(c);
            return source.then(Way.UNQUOTED);
        }

        Way behind(int c) {
            if (endsName(c)) {
                return leave(c);
            }
            source.wrong(12);
            return Way.BEFORE;
        }

        Way self(int c) {
            switch (c) {
                case '>':
                    tokens.setMark(1);
                    return tagDone();
                case END:
                    return dropped();
                default:
                    source.wrong(13);
                    return Way.BEFORE;
            }
        }
    }

    /** The ways inside a comment. */
    private static final class CommentWays extends Ways {
        private static final int NOWHERE = -1;

        private int nestedPlace = NOWHERE;

        CommentWays(Source source, Tokens tokens) {
            super(source, tokens);
        }

        private Way closedEarly() {
            source.wrong(17);
            return done();
        }

        private Way unfinished() {
            source.wrong(18);
            return toldAtEnd();
        }

        Way bogus(int c) {
            switch (c) {
                case '>':
                    return done();
                case END:
                    return toldAtEnd();
                default:
                    addKnown(c);
                    return source.then(Way.BOGUS);
            }
        }

        Way start(int c) {
            nestedPlace = NOWHERE;
            switch (c) {
                case '-':
                    return source.then(Way.STARTDASH);
                case '>':
                    return closedEarly();
                default:
                    return Way.COMMENT;
            }
        }

        Way startDash(int c) {
            return c == '>' ? closedEarly() : Way.COMMENTDASH;
        }

        Way inside(int c) {
            switch (c) {
                case '-':
                    return source.then(Way.COMMENTDASH);
                case END:
                    return unfinished();
                case '<':
                    lookForNested(source.place());
                    break;
                default:
                    break;
            }
            addKnown(c);
            return source.then(Way.COMMENT);
        }

        /** The fault is told when the place behind is read, before other faults that are there. */
        private void lookForNested(int start) {
            boolean opens = source.character(start + 1) == '!'
                    && source.character(start + 2) == '-'
                    && source.character(start + 3) == '-';
            int behind = source.character(start + 4);
            if (opens && behind != '>' && behind != END) {
                nestedPlace = start + 4;
            }
        }

        Way dash(int c) {
            switch (c) {
                case '-':
                    return source.then(Way.COMMENTEND);
                case END:
                    return unfinished();
                default:
                    tokens.add('-');
                    return Way.COMMENT;
            }
        }

        Way end(int c) {
            if (source.place() == nestedPlace) {
                source.wrong(19);
            }
            switch (c) {
                case '>':
                    return done();
                case '!':
                    return source.then(Way.COMMENTBANG);
                case '-':
                    tokens.add('-');
                    return source.then(Way.COMMENTEND);
                case END:
                    return unfinished();
                default:
                    tokens.add('-');
                    tokens.add('-');
                    return Way.COMMENT;
            }
        }

        Way bang(int c) {
            switch (c) {
                case '>':
                    source.wrong(20);
                    return done();
                case END:
                    return unfinished();
                default:
                    tokens.add('-');
                    tokens.add('-');
                    tokens.add('!');
                    return c == '-' ? source.then(Way.COMMENTDASH) : Way.COMMENT;
            }
        }
    }

    /** The ways inside a doctype. */
    private static final class DoctypeWays extends Ways {
        DoctypeWays(Source source, Tokens tokens) {
            super(source, tokens);
        }

        private Way oddAtEnd() {
            source.wrong(23);
            tokens.setMark(1);
            return toldAtEnd();
        }

        Way start(int c) {
            if (isBlank(c)) {
                return source.then(Way.DOCTYPEBEFORE);
            }
            if (c != '>' && c != END) {
                source.wrong(21);
            }
            return Way.DOCTYPEBEFORE;
        }

        Way before(int c) {
            if (isBlank(c)) {
                return source.then(Way.DOCTYPEBEFORE);
            }
            tokens.begin(DOCTYPE);
            switch (c) {
                case '>':
                    source.wrong(22);
                    tokens.setMark(1);
                    return done();
                case END:
                    return oddAtEnd();
                default:
                    return Way.DOCTYPENAME;
            }
        }

        Way name(int c) {
            if (isBlank(c)) {
                return source.then(Way.DOCTYPEAFTER);
            }
            switch (c) {
                case '>':
                    return done();
                case END:
                    return oddAtEnd();
                default:
                    addKnown(lowered(c));
                    return source.then(Way.DOCTYPENAME);
            }
        }

        Way after(int c) {
            if (isBlank(c)) {
                return source.then(Way.DOCTYPEAFTER);
            }
            switch (c) {
                case '>':
                    return done();
                case END:
                    return oddAtEnd();
                default:
                    source.wrong(24);
                    tokens.setMark(1);
                    return Way.DOCTYPEODD;
            }
        }

        Way odd(int c) {
            switch (c) {
                case '>':
                    return done();
                case END:
                    return toldAtEnd();
                case 0:
                    source.wrong(1);
                    return source.then(Way.DOCTYPEODD);
                default:
                    return source.then(Way.DOCTYPEODD);
            }
        }
    }

    /** The bytes that were written latest. */
    private static final class Out {
        // The dearest character is a 0 in a value: eight bytes, as a reference to UNKNOWN.
        private static final int MOST = 8 * MOST_BYTES;
        private static final int HIGHEST_UNIT = 1000000;

        private final Tokens tokens;
        private final byte[] bytes = new byte[MOST];
        private int length = 0;

        Out(Tokens tokens) {
            this.tokens = tokens;
        }

        int length() {
            return length;
        }

        /** The byte there, from 0 to 255; 0 where there is none. */
        long byteAt(long where) {
            return where >= 0 && where < length ? bytes[(int) where] & 255L : 0L;
        }

        void copyTo(byte[] target) {
            System.arraycopy(bytes, 0, target, 0, Math.min(length, target.length));
        }

        void putAll() {
            length = 0;
            for (int i = 0; i < tokens.count(); i++) {
                switch (tokens.kind(i)) {
                    case TEXT:
                        putText(i);
                        break;
                    case COMMENT:
                        putComment(i);
                        break;
                    case DOCTYPE:
                        putDoctype(i);
                        break;
                    default:
                        putTag(i);
                        break;
                }
            }
        }

        private void putText(int i) {
            for (int k = 0; k < tokens.length(i); k++) {
                int c = tokens.character(i, k);
                if (c == '<') {
                    putString("&lt;");
                } else {
                    putReferable(c);
                }
            }
        }

        private void putComment(int i) {
            putString("<!--");
            putOwn(i);
            putString("-->");
        }

        private void putDoctype(int i) {
            putString("<!DOCTYPE");
            if (tokens.length(i) > 0) {
                putByte(' ');
                putOwn(i);
                if (tokens.mark(i) == 1) {
                    putString(" x");
                }
            }
            putByte('>');
        }

        private void putTag(int i) {
            putByte('<');
            if (tokens.kind(i) == STOP) {
                putByte('/');
            }
            putOwn(i);
            for (int a = 0; a < tokens.attributes(i); a++) {
                putAttribute(i, a);
            }
            if (tokens.mark(i) == 1) {
                putByte('/');
            }
            putByte('>');
        }

        private void putAttribute(int i, int a) {
            putByte(' ');
            for (int k = 0; k < tokens.nameLength(i, a); k++) {
                putPlain(tokens.nameCharacter(i, a, k));
            }
            putString("=\"");
            for (int k = 0; k < tokens.valueLength(i, a); k++) {
                int c = tokens.valueCharacter(i, a, k);
                if (c == '"') {
                    putString("&quot;");
                } else {
                    putReferable(c);
                }
            }
            putByte('"');
        }

        private void putOwn(int i) {
            for (int k = 0; k < tokens.length(i); k++) {
                putPlain(tokens.character(i, k));
            }
        }

        private void putPlain(int c) {
            putByte(c == UNKNOWN ? 0 : c);
        }

        private void putReferable(int c) {
            if (c == '&') {
                putString("&amp;");
            } else if (c == 13 || c > 255) {
                putString("&#");
                putDigits(c);
                putByte(';');
            } else {
                putByte(c);
            }
        }

        private void putDigits(int number) {
            for (int unit = HIGHEST_UNIT; unit > 0; unit /= 10) {
                if (number >= unit) {
                    putByte('0' + number / unit % 10);
                }
            }
        }

        private void putString(String string) {
            for (int k = 0; k < string.length(); k++) {
                putByte(string.charAt(k));
            }
        }

        private void putByte(int c) {
            if (length < MOST) {
                bytes[length] = (byte) c;
                length++;
            }
        }
    }
}
