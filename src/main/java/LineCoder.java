/**
 * Two codes of a line, each with a sender, a stream of bits and a receiver: bytes as ten bits
 * (stream 0), and words of 64 bits, stirred, behind two bits that differ (stream 1).
 */
public final class LineCoder {
    public static final int NONE = -1;
    public static final int BAD = -2;
    public static final int SLIP = -3;

    private static final int MOST_RAW_BITS = 32;

    private final Line tenLine;
    private final Line wordLine;
    private final TenReceiver tenReceiver;
    private final WordReceiver wordReceiver;
    private final Stirrer sentWords;
    private boolean senderPlus;

    public LineCoder() {
        tenLine = new Line();
        wordLine = new Line();
        tenReceiver = new TenReceiver(tenLine);
        wordReceiver = new WordReceiver(wordLine);
        sentWords = new Stirrer();
        senderPlus = false;
    }

    public int code(int symbol, boolean plus) throws IllegalArgumentException {
        refuseNoSymbol(symbol);
        return TenCode.encode(symbol, plus);
    }

    public int symbol(int code) throws IllegalArgumentException {
        if (code < 0 || code >= 1 << TenCode.LENGTH) {
            throw new IllegalArgumentException("not ten bits");
        }
        int withMinus = TenCode.decode(code, false);
        return withMinus != NONE ? withMinus : TenCode.decode(code, true);
    }

    public int send(int symbol) throws IllegalArgumentException, IllegalStateException {
        refuseNoSymbol(symbol);
        refuseNoRoom(tenLine, TenCode.LENGTH);
        int ten = TenCode.encode(symbol, senderPlus);
        tenLine.append(ten, TenCode.LENGTH);
        senderPlus = TenCode.plusBehind(ten, senderPlus);
        return ten;
    }

    public int receive() {
        return tenReceiver.step();
    }

    public int put(long word, boolean control) throws IllegalStateException {
        refuseNoRoom(wordLine, WordCode.LENGTH);
        wordLine.append(control ? WordCode.CONTROL : WordCode.DATA, WordCode.HEAD);
        for (int i = 0; i < WordCode.BODY; i++) {
            int plain = (int) (word >>> i) & 1;
            wordLine.append(sentWords.stir(plain), 1);
        }
        return wordLine.size();
    }

    public int take() {
        return wordReceiver.step();
    }

    public long word() {
        return wordReceiver.lastWord();
    }

    public int raw(int stream, int bits, int many)
            throws IllegalArgumentException, IllegalStateException {
        Line line = lineOf(stream);
        if (many < 0 || many > MOST_RAW_BITS) {
            throw new IllegalArgumentException("not 0 to 32 bits");
        }
        refuseNoRoom(line, many);
        line.append(bits, many);
        return line.size();
    }

    public boolean bend(int stream, int k)
            throws IllegalArgumentException, IndexOutOfBoundsException {
        Line line = lineOf(stream);
        if (!line.has(k)) {
            throw new IndexOutOfBoundsException("no such bit");
        }
        line.turn(k);
        return line.at(k) == 1;
    }

    public int lose(int stream, int k, int many) throws IllegalArgumentException {
        Line line = lineOf(stream);
        if (many < 0) {
            throw new IllegalArgumentException("fewer than no bits");
        }
        if (k < line.place()) {
            throw new IllegalArgumentException("before the receiver's place");
        }
        return line.remove(k, many);
    }

    public int bit(int stream, int k) throws IllegalArgumentException {
        return lineOf(stream).at(k);
    }

    public int count(int stream, int what) throws IllegalArgumentException {
        Line line = lineOf(stream);
        Receiver receiver = stream == 0 ? tenReceiver : wordReceiver;
        switch (what) {
            case 0: return line.size();
            case 1: return line.place();
            case 2: return receiver.isFollowing() ? 1 : 0;
            case 3: return receiver.marks();
            case 4: return receiver.slips();
            case 5: return receiver.bads();
            case 6: return receiver.wrongs();
            case 7: return line.onesLessZeros();
            case 8: return line.longestRun();
            default: throw new IllegalArgumentException("nothing that is counted");
        }
    }

    public boolean isPlus(boolean sender) {
        return sender ? senderPlus : tenReceiver.hasPlus();
    }

    public void clear() {
        tenLine.empty();
        wordLine.empty();
        tenReceiver.restart();
        wordReceiver.restart();
        sentWords.forget();
        senderPlus = false;
    }

    private Line lineOf(int stream) {
        if (stream != 0 && stream != 1) {
            throw new IllegalArgumentException("no such stream");
        }
        return stream == 0 ? tenLine : wordLine;
    }

    private static void refuseNoSymbol(int symbol) {
        if (!TenCode.isSymbol(symbol)) {
            throw new IllegalArgumentException("no symbol");
        }
    }

    private static void refuseNoRoom(Line line, int many) {
        if (!line.hasRoom(many)) {
            throw new IllegalStateException("no room in the stream");
        }
    }

    /** The bits of a stream, and the place of its receiver. */
    private static final class Line {
        private static final int ROOM = 2640;

        private final byte[] bits;
        private int size;
        private int place;

        Line() {
            bits = new byte[ROOM];
            size = 0;
            place = 0;
        }

        // What stands behind the size is never read, so the row itself can stay as it is.
        void empty() {
            size = 0;
            place = 0;
        }

        int size() {
            return size;
        }

        int place() {
            return place;
        }

        int left() {
            return size - place;
        }

        boolean has(int k) {
            return k >= 0 && k < size;
        }

        boolean hasRoom(int many) {
            return many <= ROOM - size;
        }

        int at(int k) {
            return has(k) ? bits[k] : NONE;
        }

        void turn(int k) {
            if (has(k)) {
                bits[k] = (byte) (1 - bits[k]);
            }
        }

        /** Appends the lowest bits of a number, the highest of them first. */
        void append(int number, int many) {
            for (int i = many - 1; i >= 0 && size < ROOM; i--) {
                bits[size] = (byte) (number >>> i & 1);
                size++;
            }
        }

        /** Removes up to so many bits from one on, and tells how many there were. */
        int remove(int from, int many) {
            if (!has(from) || many <= 0) {
                return 0;
            }
            int gone = Math.min(many, size - from);
            int behind = from + gone;
            System.arraycopy(bits, behind, bits, from, size - behind);
            size -= gone;
            return gone;
        }

        /** The next bits as a number, the first one the highest; bits that are not there count 0. */
        int ahead(int many) {
            int number = 0;
            for (int i = 0; i < many; i++) {
                number = number << 1 | (at(place + i) == 1 ? 1 : 0);
            }
            return number;
        }

        void advance(int many) {
            place += Math.min(many, left());
        }

        int onesLessZeros() {
            int sum = 0;
            for (int i = 0; i < size; i++) {
                sum += bits[i] == 1 ? 1 : -1;
            }
            return sum;
        }

        int longestRun() {
            int longest = 0;
            int run = 0;
            for (int i = 0; i < size; i++) {
                run = i > 0 && bits[i] == bits[i - 1] ? run + 1 : 1;
                longest = Math.max(longest, run);
            }
            return longest;
        }
    }

    /** The code of bytes and signs as ten bits: six for the lowest five bits, four for the rest. */
    private static final class TenCode {
        static final int LENGTH = 10;

        private static final int FOUR_LENGTH = 4;
        private static final int X_COUNT = 32;
        private static final int BYTES = 256;
        private static final int SYMBOLS_END = 512;
        private static final int SIGN_X = 28;
        private static final int SIGN_SIX = 0b001111;
        private static final int OTHER_FOUR_OF_7 = 0b0111;

        // Sets of x: bit x is 1 if it is in the set.
        private static final int SIGNS_WITH_7 = 1 << 23 | 1 << 27 | 1 << 29 | 1 << 30;
        private static final int OTHER_FOUR_WITH_MINUS = 1 << 17 | 1 << 18 | 1 << 20;
        private static final int OTHER_FOUR_WITH_PLUS = 1 << 11 | 1 << 13 | 1 << 14;

        private static final int[] SIX = {
            0b100111, 0b011101, 0b101101, 0b110001, 0b110101, 0b101001, 0b011001, 0b111000,
            0b111001, 0b100101, 0b010101, 0b110100, 0b001101, 0b101100, 0b011100, 0b010111,
            0b011011, 0b100011, 0b010011, 0b110010, 0b001011, 0b101010, 0b011010, 0b111010,
            0b110011, 0b100110, 0b010110, 0b110110, 0b001110, 0b101110, 0b011110, 0b101011
        };

        private static final int[] FOUR = {
            0b1011, 0b1001, 0b0101, 0b1100, 0b1101, 0b1010, 0b0110, 0b1110
        };

        static boolean isSymbol(int symbol) {
            if (symbol < 0 || symbol >= SYMBOLS_END) {
                return false;
            }
            int x = symbol & 31;
            int y = symbol >> 5 & 7;
            return symbol < BYTES || x == SIGN_X || y == 7 && isAmong(x, SIGNS_WITH_7);
        }

        static int encode(int symbol, boolean plus) {
            int six = sixOf(symbol, plus);
            int four = fourOf(symbol, plusBehindSix(six, plus));
            return six << FOUR_LENGTH | four;
        }

        /** The symbol whose ten bits these are with this running sign, or NONE. */
        static int decode(int ten, boolean plus) {
            int x = xOf(ten >> FOUR_LENGTH, plus);
            if (x == NONE) {
                return NONE;
            }
            for (int symbol = x; symbol < SYMBOLS_END; symbol += X_COUNT) {
                if (isSymbol(symbol) && encode(symbol, plus) == ten) {
                    return symbol;
                }
            }
            return NONE;
        }

        /** The running sign behind ten bits, be they a symbol's or not. */
        static boolean plusBehind(int ten, boolean plus) {
            boolean between = plusBehindSix(ten >> FOUR_LENGTH, plus);
            return plusBehindFour(ten & 0b1111, between);
        }

        private static boolean isAmong(int x, int set) {
            return (set >>> x & 1) == 1;
        }

        // No two x share a six, so that it alone tells which symbols are worth a look.
        private static int xOf(int six, boolean plus) {
            for (int x = 0; x < X_COUNT; x++) {
                if (sixOf(x, plus) == six || sixOf(BYTES + x, plus) == six) {
                    return x;
                }
            }
            return NONE;
        }

        private static int sixOf(int symbol, boolean plus) {
            int x = symbol & 31;
            int six = symbol >= BYTES && x == SIGN_X ? SIGN_SIX : SIX[x];
            boolean hasPlusForm = Integer.bitCount(six) != 3 || six == 0b111000;
            return plus && hasPlusForm ? six ^ 0b111111 : six;
        }

        private static int fourOf(int symbol, boolean plus) {
            int y = symbol >> 5 & 7;
            boolean sign = symbol >= BYTES;
            int others = plus ? OTHER_FOUR_WITH_PLUS : OTHER_FOUR_WITH_MINUS;
            int four = FOUR[y];
            if (y == 7 && (sign || isAmong(symbol & 31, others))) {
                four = OTHER_FOUR_OF_7;
            }
            boolean hasPlusForm = Integer.bitCount(four) != 2 || four == 0b1100;
            // The fours without a form for PLUS are those of y = 1, 2, 5, 6, which signs turn round.
            boolean turned = hasPlusForm ? plus : sign && !plus;
            return turned ? four ^ 0b1111 : four;
        }

        private static boolean plusBehindSix(int six, boolean plus) {
            int ones = Integer.bitCount(six);
            if (ones != 3) {
                return ones > 3;
            }
            return six == 0b000111 || six != 0b111000 && plus;
        }

        private static boolean plusBehindFour(int four, boolean plus) {
            int ones = Integer.bitCount(four);
            if (ones != 2) {
                return ones > 2;
            }
            return four == 0b0011 || four != 0b1100 && plus;
        }
    }

    /** The lengths and heads of the words in stream 1. */
    private static final class WordCode {
        static final int HEAD = 2;
        static final int BODY = 64;
        static final int LENGTH = HEAD + BODY;
        static final int DATA = 0b01;
        static final int CONTROL = 0b10;
    }

    /** Stirs bits, or stirs them back, by the last ones that were on the line. */
    private static final class Stirrer {
        private static final long ALL_ONES = -1L;

        // The latest bit is the lowest one: the bit n before stands at n - 1.
        private long past;

        Stirrer() {
            past = ALL_ONES;
        }

        void forget() {
            past = ALL_ONES;
        }

        int stir(int plain) {
            int stirred = plain ^ turning();
            remember(stirred);
            return stirred;
        }

        int stirBack(int stirred) {
            int plain = stirred ^ turning();
            remember(stirred);
            return plain;
        }

        private int turning() {
            return (int) (past >>> 38 ^ past >>> 57) & 1;
        }

        private void remember(int stirred) {
            past = past << 1 | stirred;
        }
    }

    /** What the receivers of both streams count. */
    private abstract static class Receiver {
        final Line line;
        boolean following;
        int slips;
        int bads;
        int wrongs;

        Receiver(Line line) {
            this.line = line;
            following = false;
            slips = 0;
            bads = 0;
            wrongs = 0;
        }

        abstract int marks();

        final boolean isFollowing() {
            return following;
        }

        final int slips() {
            return slips;
        }

        final int bads() {
            return bads;
        }

        final int wrongs() {
            return wrongs;
        }

        final void countAnew() {
            following = false;
            slips = 0;
            bads = 0;
            wrongs = 0;
        }

        final int slip() {
            line.advance(1);
            slips++;
            return SLIP;
        }
    }

    /** Finds tens by the seven bits that only signs have, and follows them. */
    private static final class TenReceiver extends Receiver {
        private static final int MARK_LENGTH = 7;
        private static final int MARK = 0b0011111;
        private static final int TURNED_MARK = 0b1100000;
        private static final int MOST_MARKS = 4;
        private static final int ROW = 4;
        private static final int WRONG_MORE = 512;

        private boolean plus;
        private boolean first;
        private int marks;
        private int row;

        TenReceiver(Line line) {
            super(line);
            plus = false;
            first = false;
            marks = 0;
            row = 0;
        }

        void restart() {
            countAnew();
            plus = false;
            first = false;
            marks = 0;
            row = 0;
        }

        boolean hasPlus() {
            return plus;
        }

        int marks() {
            return marks;
        }

        int step() {
            if (!following) {
                if (line.left() < MARK_LENGTH) {
                    return NONE;
                }
                if (!isAtMark()) {
                    return slip();
                }
                following = true;
                first = true;
            }
            return line.left() < TenCode.LENGTH ? NONE : takeTen();
        }

        private boolean isAtMark() {
            int ahead = line.ahead(MARK_LENGTH);
            return ahead == MARK || ahead == TURNED_MARK;
        }

        private int takeTen() {
            int ten = line.ahead(TenCode.LENGTH);
            line.advance(TenCode.LENGTH);
            int fitting = TenCode.decode(ten, plus);
            int symbol = fitting != NONE ? fitting : TenCode.decode(ten, !plus);
            boolean otherSign = fitting == NONE && symbol != NONE;
            boolean wrong = otherSign && !first;
            if (otherSign && first) {
                plus = !plus;
            }
            first = false;
            plus = TenCode.plusBehind(ten, plus);
            return judge(symbol, wrong);
        }

        private int judge(int symbol, boolean wrong) {
            if (symbol == NONE) {
                bads++;
                mark();
                return BAD;
            }
            if (wrong) {
                wrongs++;
                mark();
                return symbol + WRONG_MORE;
            }
            praise();
            return symbol;
        }

        private void mark() {
            row = 0;
            marks++;
            if (marks >= MOST_MARKS) {
                marks = 0;
                following = false;
            }
        }

        private void praise() {
            row++;
            if (row == ROW) {
                row = 0;
                marks = Math.max(0, marks - 1);
            }
        }
    }

    /** Finds words by the two bits that differ, and follows them. */
    private static final class WordReceiver extends Receiver {
        private static final int GOOD_TO_FOLLOW = 8;
        private static final int BAD_TO_HUNT = 4;
        private static final int LAST_16 = 0xFFFF;

        private final Stirrer received;
        private int goodRow;
        // A bit for each of the last 16 words since it follows: 1 if it was not good.
        private int lately;
        private long last;

        WordReceiver(Line line) {
            super(line);
            received = new Stirrer();
            goodRow = 0;
            lately = 0;
            last = 0L;
        }

        void restart() {
            countAnew();
            received.forget();
            goodRow = 0;
            lately = 0;
            last = 0L;
        }

        long lastWord() {
            return last;
        }

        int marks() {
            return following ? Integer.bitCount(lately) : goodRow;
        }

        int step() {
            if (line.left() < WordCode.LENGTH) {
                return NONE;
            }
            int head = line.ahead(WordCode.HEAD);
            boolean good = head == WordCode.DATA || head == WordCode.CONTROL;
            if (!following && !good) {
                goodRow = 0;
                return slip();
            }
            takeWord();
            if (following) {
                watch(good);
            } else {
                gain();
            }
            if (!good) {
                bads++;
                return BAD;
            }
            return head == WordCode.CONTROL ? 1 : 0;
        }

        private void takeWord() {
            line.advance(WordCode.HEAD);
            long taken = 0L;
            for (int i = 0; i < WordCode.BODY; i++) {
                long plain = received.stirBack(line.ahead(1));
                line.advance(1);
                taken |= plain << i;
            }
            last = taken;
        }

        private void gain() {
            goodRow++;
            if (goodRow >= GOOD_TO_FOLLOW) {
                following = true;
                lately = 0;
            }
        }

        private void watch(boolean good) {
            lately = (lately << 1 | (good ? 0 : 1)) & LAST_16;
            if (Integer.bitCount(lately) >= BAD_TO_HUNT) {
                following = false;
                goodRow = 0;
            }
        }
    }
}
