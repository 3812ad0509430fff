/** The edges that the document names for words: promises 6, 7 and 8, a method for each. */
public final class WordEdgeTest {
    private static final Check CHECK = new Check("WordEdgeTest");
    private static final int NONE = LineCoder.NONE;
    private static final int BAD = LineCoder.BAD;
    private static final int SLIP = LineCoder.SLIP;

    public static void main(String[] args) {
        putWithoutRoom();
        putBehindRawBits();
        bitsBeforeTheFirstOnes();
        bitsBeforeTheFirstOnesAsReceived();
        stirredOverTheEdgeOfAWord();
        theLowestAndHighestBit();
        takeWithFewerThan66();
        followWithFewerThan66();
        slips();
        slipsBeginToCountAnew();
        theEighthGoodOne();
        inHuntNoneIsBad();
        allHeads();
        theFourthThatIsNotGood();
        theFourthWithinSixteen();
        theFourthBehindSixteen();
        sinceItFollows();
        huntBeginsWithNone();
        noWordWasTaken();
        theLastWord();
        CHECK.end();
    }

    /** An object whose STREAM 1 has so many bits, all of them 0. */
    private static LineCoder filledWith(int many) {
        LineCoder x = new LineCoder();
        for (int left = many; left > 0; left -= 32) {
            x.raw(1, 0, Math.min(left, 32));
        }
        CHECK.same("filled", x.count(1, 0), many);
        return x;
    }

    private static void refusesPut(String what, LineCoder x) {
        CHECK.refuses(what + ": data", IllegalStateException.class, () -> x.put(-1L, false));
        CHECK.refuses(what + ": control", IllegalStateException.class, () -> x.put(0L, true));
    }

    private static void putWithoutRoom() {
        LineCoder x = filledWith(2575);
        refusesPut("put with room for 65", x);
        CHECK.same("bits when refused", x.count(1, 0), 2575);
        Twins.areAlike(CHECK, "put when refused", x, filledWith(2575));
        LineCoder y = filledWith(2574);
        CHECK.same("put with room for 66", y.put(-1L, true), 2640);
        CHECK.same("the first bit of its head", y.bit(1, 2574), 1);
        CHECK.same("the second bit of its head", y.bit(1, 2575), 0);
        CHECK.same("its first bit", y.bit(1, 2576), 1);
        refusesPut("put with no room", y);
        CHECK.same("full still", y.count(1, 0), 2640);
        // A full STREAM 0 leaves room in STREAM 1.
        LineCoder z = new LineCoder();
        for (int i = 0; i < 83; i++) {
            z.raw(0, 0, i < 82 ? 32 : 16);
        }
        CHECK.same("put beside a full STREAM", z.put(1L, false), 66);
    }

    private static void putBehindRawBits() {
        LineCoder x = new LineCoder();
        x.raw(1, 0, 32);
        x.raw(1, 0, 32);
        CHECK.same("put behind raw bits", x.put(0L, false), 130);
        isWord("a word of zeros behind raw bits", x, 66, 0, 39, 58);
    }

    /** Asks that of the 64 bits from one on those from one to another are others than the rest. */
    private static void isWord(String what, LineCoder x, int from, int most, int other, int to) {
        for (int i = 0; i < 64; i++) {
            int due = i >= other && i < to ? 1 - most : most;
            CHECK.same(what + ": bit " + i, x.bit(1, from + i), due);
        }
    }

    // 39 before counts as 1 up to bit 38, 58 before up to bit 57: the bits between are turned round
    // if those sent first are 0.
    private static void bitsBeforeTheFirstOnes() {
        LineCoder x = new LineCoder();
        x.put(0L, false);
        isWord("a first word of zeros", x, 2, 0, 39, 58);
        LineCoder y = new LineCoder();
        y.put(-1L, false);
        isWord("a first word of ones", y, 2, 1, 64, 64);
        LineCoder z = new LineCoder();
        z.put(-1L, true);
        z.clear();
        z.put(0L, true);
        isWord("a word of zeros behind clear", z, 2, 0, 39, 58);
    }

    private static void rawWord(LineCoder x, int head, long bits) {
        x.raw(1, head, 2);
        x.raw(1, (int) (bits >>> 32), 32);
        x.raw(1, (int) bits, 32);
    }

    private static void bitsBeforeTheFirstOnesAsReceived() {
        LineCoder x = new LineCoder();
        rawWord(x, 0b01, 0L);
        CHECK.same("take", x.take(), 0);
        CHECK.same("64 bits of 0, stirred back", x.word(), (1L << 58) - (1L << 39));
        LineCoder y = new LineCoder();
        rawWord(y, 0b10, -1L);
        CHECK.same("take of ones", y.take(), 1);
        CHECK.same("64 bits of 1, stirred back", y.word(), -1L);
        // Bits that it slips by are none of those received.
        LineCoder z = new LineCoder();
        z.raw(1, 0, 32);
        z.raw(1, 0, 31);
        rawWord(z, 0b01, 0L);
        for (int i = 0; i < 63; i++) {
            CHECK.same("slip " + i, z.take(), SLIP);
        }
        CHECK.same("take behind slips", z.take(), 0);
        CHECK.same("64 bits of 0 behind slips", z.word(), (1L << 58) - (1L << 39));
    }

    private static void stirredOverTheEdgeOfAWord() {
        // Of the first word only bits 39 to 57 are 1. Heads are none of the bits counted back, so
        // that bit i of the second word is stirred by bits i + 25 and i + 6 of the first.
        LineCoder x = new LineCoder();
        x.put(0L, true);
        x.put(0L, true);
        for (int i = 0; i < 39; i++) {
            boolean by39 = i + 25 >= 39 && i + 25 < 58;
            boolean by58 = i + 6 >= 39 && i + 6 < 58;
            CHECK.same("bit " + i + " of a second word", x.bit(1, 68 + i), by39 != by58 ? 1 : 0);
        }
        x.take();
        CHECK.same("the first word", x.word(), 0L);
        x.take();
        CHECK.same("the second word", x.word(), 0L);
    }

    private static void theLowestAndHighestBit() {
        LineCoder x = new LineCoder();
        x.put(-2L, false);
        CHECK.same("the lowest bit comes first", x.bit(1, 2), 0);
        CHECK.same("the next one", x.bit(1, 3), 1);
        LineCoder y = new LineCoder();
        y.put(Long.MAX_VALUE, false);
        CHECK.same("the highest bit comes last", y.bit(1, 65), 0);
        CHECK.same("the one before it", y.bit(1, 64), 1);
        for (long word : new long[] {0L, 1L, -1L, Long.MIN_VALUE, Long.MAX_VALUE}) {
            LineCoder z = new LineCoder();
            z.put(word, true);
            CHECK.same("take of " + word, z.take(), 1);
            CHECK.same("word " + word, z.word(), word);
        }
    }

    private static void takeWithFewerThan66() {
        LineCoder x = new LineCoder();
        CHECK.same("take of none", x.take(), NONE);
        x.put(5L, false);
        x.lose(1, 65, 1);
        CHECK.same("take of 65, GOOD", x.take(), NONE);
        CHECK.counts("65, GOOD", x, 1, 65, 0, 0, 0, 0, 0, 0);
        x.bend(1, 0);
        CHECK.same("take of 65, not GOOD", x.take(), NONE);
        CHECK.counts("65, not GOOD", x, 1, 65, 0, 0, 0, 0, 0, 0);
        x.bend(1, 0);
        x.raw(1, 0, 1);
        CHECK.same("take of 66", x.take(), 0);
        CHECK.counts("66", x, 1, 66, 66, 0, 1, 0, 0, 0);
        LineCoder y = new LineCoder();
        y.put(5L, true);
        y.put(6L, true);
        y.lose(1, 131, 1);
        CHECK.same("take of 131", y.take(), 1);
        CHECK.same("take of the 65 that are left", y.take(), NONE);
        CHECK.counts("65 left", y, 1, 131, 66, 0, 1, 0, 0, 0);
    }

    private static LineCoder following() {
        LineCoder x = new LineCoder();
        for (int i = 0; i < 8; i++) {
            take(x, i, 0b01, 0);
        }
        CHECK.counts("it FOLLOWS", x, 1, 528, 528, 1, 0, 0, 0, 0);
        return x;
    }

    /** A word comes with a head, and is taken. */
    private static void take(LineCoder x, long word, int head, int due) {
        int k = x.count(1, 0);
        x.put(word, head >> 1 == 1);
        if (head == 0b00 || head == 0b11) {
            x.bend(1, k + 1);
        }
        CHECK.same("take of a head " + head, x.take(), due);
        CHECK.same("word behind a head " + head, x.word(), word);
    }

    private static void followWithFewerThan66() {
        LineCoder x = following();
        x.raw(1, 0, 32);
        x.raw(1, 0, 32);
        x.raw(1, 0, 1);
        CHECK.same("65 bits when it FOLLOWS", x.take(), NONE);
        CHECK.counts("65 bits when it FOLLOWS", x, 1, 593, 528, 1, 0, 0, 0, 0);
        CHECK.same("word, still", x.word(), 7L);
        x.raw(1, 0, 1);
        CHECK.same("66 bits when it FOLLOWS", x.take(), BAD);
        CHECK.counts("66 bits when it FOLLOWS", x, 1, 594, 594, 1, 1, 0, 1, 0);
    }

    private static void slips() {
        for (int head : new int[] {0b00, 0b11}) {
            LineCoder x = new LineCoder();
            rawWord(x, head, 0L);
            CHECK.same("a head " + head + " in HUNT", x.take(), SLIP);
            CHECK.counts("a head " + head + " in HUNT", x, 1, 66, 1, 0, 0, 1, 0, 0);
            CHECK.same("65 bits behind it", x.take(), NONE);
            CHECK.counts("65 bits behind it", x, 1, 66, 1, 0, 0, 1, 0, 0);
            CHECK.same("no word", x.word(), 0L);
        }
        // It goes on by one bit, not by two: the second bit may begin a head.
        LineCoder y = new LineCoder();
        y.raw(1, 0, 1);
        y.put(9L, false);
        CHECK.same("0 0", y.take(), SLIP);
        CHECK.same("0 1", y.take(), 0);
        CHECK.same("word", y.word(), 9L);
        CHECK.counts("behind a slip", y, 1, 67, 67, 0, 1, 1, 0, 0);
    }

    private static void slipsBeginToCountAnew() {
        LineCoder x = new LineCoder();
        for (int i = 0; i < 7; i++) {
            take(x, i, 0b10, 1);
        }
        CHECK.same("seven GOOD ones", x.count(1, 3), 7);
        x.raw(1, 1, 1);
        x.put(7L, true);
        CHECK.same("a slip", x.take(), SLIP);
        CHECK.same("none in a row", x.count(1, 3), 0);
        CHECK.same("the next one", x.take(), 1);
        CHECK.counts("one in a row", x, 1, 529, 529, 0, 1, 1, 0, 0);
        for (int i = 2; i <= 7; i++) {
            take(x, i, 0b01, 0);
            CHECK.same("in a row", x.count(1, 3), i);
            CHECK.same("in HUNT", x.count(1, 2), 0);
        }
        take(x, 8L, 0b01, 0);
        CHECK.counts("the eighth in a row", x, 1, 991, 991, 1, 0, 1, 0, 0);
    }

    private static void theEighthGoodOne() {
        LineCoder x = new LineCoder();
        for (int i = 1; i <= 7; i++) {
            take(x, i, i % 2 == 0 ? 0b01 : 0b10, i % 2);
            CHECK.counts("GOOD one " + i, x, 1, 66 * i, 66 * i, 0, i, 0, 0, 0);
        }
        take(x, 8L, 0b01, 0);
        CHECK.counts("the eighth GOOD one", x, 1, 528, 528, 1, 0, 0, 0, 0);
        take(x, 9L, 0b10, 1);
        CHECK.counts("the ninth GOOD one", x, 1, 594, 594, 1, 0, 0, 0, 0);
        take(x, 10L, 0b11, BAD);
        CHECK.counts("the first that is not", x, 1, 660, 660, 1, 1, 0, 1, 0);
    }

    // NONE between two GOOD ones does not break their row.
    private static void inHuntNoneIsBad() {
        LineCoder x = new LineCoder();
        for (int i = 1; i <= 8; i++) {
            take(x, i, 0b01, 0);
            CHECK.same("none left", x.take(), NONE);
        }
        CHECK.counts("eight with gaps", x, 1, 528, 528, 1, 0, 0, 0, 0);
        LineCoder y = new LineCoder();
        take(y, 1L, 0b01, 0);
        rawWord(y, 0b00, 0L);
        CHECK.same("in HUNT none is BAD", y.take(), SLIP);
        CHECK.same("no BAD ones", y.count(1, 5), 0);
    }

    private static void allHeads() {
        LineCoder x = following();
        take(x, 1L, 0b00, BAD);
        take(x, 2L, 0b01, 0);
        take(x, 3L, 0b10, 1);
        take(x, 4L, 0b11, BAD);
        CHECK.counts("all heads", x, 1, 792, 792, 1, 2, 0, 2, 0);
    }

    private static void theFourthThatIsNotGood() {
        LineCoder x = following();
        for (int i = 1; i <= 3; i++) {
            take(x, i, 0b00, BAD);
            CHECK.counts("not GOOD: " + i, x, 1, 528 + 66 * i, 528 + 66 * i, 1, i, 0, i, 0);
        }
        // The fourth is taken whole, and HUNT begins behind it.
        take(x, 4L, 0b11, BAD);
        CHECK.counts("not GOOD: 4", x, 1, 792, 792, 0, 0, 0, 4, 0);
        rawWord(x, 0b00, 0L);
        CHECK.same("in HUNT", x.take(), SLIP);
        CHECK.counts("in HUNT", x, 1, 858, 793, 0, 0, 1, 4, 0);
    }

    private static void theFourthWithinSixteen() {
        LineCoder x = following();
        take(x, 1L, 0b00, BAD);
        take(x, 2L, 0b11, BAD);
        take(x, 3L, 0b00, BAD);
        for (int i = 4; i <= 15; i++) {
            take(x, i, 0b01, 0);
            CHECK.same("three of " + i, x.count(1, 3), 3);
        }
        take(x, 16L, 0b11, BAD);
        CHECK.counts("four of sixteen", x, 1, 1584, 1584, 0, 0, 0, 4, 0);
    }

    private static void theFourthBehindSixteen() {
        LineCoder x = following();
        take(x, 1L, 0b00, BAD);
        take(x, 2L, 0b11, BAD);
        take(x, 3L, 0b00, BAD);
        for (int i = 4; i <= 16; i++) {
            take(x, i, 0b10, 1);
            CHECK.same("three of " + i, x.count(1, 3), 3);
        }
        take(x, 17L, 0b11, BAD);
        CHECK.counts("three of the last sixteen", x, 1, 1650, 1650, 1, 3, 0, 4, 0);
        take(x, 18L, 0b10, 1);
        CHECK.same("two of the last sixteen", x.count(1, 3), 2);
        take(x, 19L, 0b10, 1);
        CHECK.same("one of the last sixteen", x.count(1, 3), 1);
        for (int i = 20; i <= 32; i++) {
            take(x, i, 0b01, 0);
            CHECK.same("one, still", x.count(1, 3), 1);
        }
    }

    private static void sinceItFollows() {
        LineCoder x = following();
        for (int i = 0; i < 4; i++) {
            take(x, i, 0b00, BAD);
        }
        for (int i = 1; i <= 8; i++) {
            take(x, i, 0b01, 0);
        }
        // The four are among the last sixteen words, but from before it FOLLOWS.
        CHECK.counts("it FOLLOWS again", x, 1, 1320, 1320, 1, 0, 0, 4, 0);
        for (int i = 1; i <= 3; i++) {
            take(x, i, 0b11, BAD);
            CHECK.same("FOLLOWS with " + i, x.count(1, 2), 1);
            CHECK.same("not GOOD since then", x.count(1, 3), i);
        }
        take(x, 4L, 0b11, BAD);
        CHECK.counts("in HUNT again", x, 1, 1584, 1584, 0, 0, 0, 8, 0);
    }

    private static void huntBeginsWithNone() {
        LineCoder x = following();
        for (int i = 0; i < 4; i++) {
            take(x, i, 0b11, BAD);
        }
        for (int i = 1; i <= 7; i++) {
            take(x, i, 0b10, 1);
            CHECK.same("GOOD ones in HUNT again", x.count(1, 3), i);
            CHECK.same("in HUNT still", x.count(1, 2), 0);
        }
        take(x, 8L, 0b10, 1);
        CHECK.same("the eighth in HUNT again", x.count(1, 2), 1);
    }

    private static void noWordWasTaken() {
        LineCoder x = new LineCoder();
        CHECK.same("of a new object", x.word(), 0L);
        x.put(-1L, true);
        CHECK.same("put, but not taken", x.word(), 0L);
        x.lose(1, 65, 1);
        x.take();
        CHECK.same("behind NONE", x.word(), 0L);
        LineCoder y = new LineCoder();
        rawWord(y, 0b11, -1L);
        y.take();
        CHECK.same("behind SLIP", y.word(), 0L);
    }

    private static void theLastWord() {
        LineCoder x = following();
        CHECK.same("the last of eight", x.word(), 7L);
        CHECK.same("NONE", x.take(), NONE);
        CHECK.same("behind NONE", x.word(), 7L);
        for (int i = 0; i < 4; i++) {
            take(x, -5L - i, 0b00, BAD);
        }
        CHECK.same("one that is BAD", x.word(), -8L);
        rawWord(x, 0b11, 0L);
        CHECK.same("SLIP", x.take(), SLIP);
        CHECK.same("behind SLIP", x.word(), -8L);
        x.lose(1, x.count(1, 1), 2640);
        take(x, 0L, 0b01, 0);
        CHECK.same("a word that is 0", x.word(), 0L);
    }
}
