import java.util.ArrayList;
import java.util.List;

/** Promise 6 (put), promise 7 (take) and promise 8 (word). */
public final class WordLineTest {
    private static final Check CHECK = new Check("WordLineTest");
    private static final long[] WORDS = {
        0L, -1L, 1L, Long.MIN_VALUE, Long.MAX_VALUE, 0x0123456789ABCDEFL, 0xAAAAAAAAAAAAAAAAL, 7L
    };

    public static void main(String[] args) {
        putsStirredBits();
        putsUntilFull();
        takesWhatWasPut();
        rawBitsAreNotStirred();
        huntsBitByBit();
        countsGoodOnesAnew();
        followsBehindEightGoodOnes();
        losesItsPlaceWithFourOfSixteen();
        forgetsBadOnesBehindSixteen();
        oldBadOnesDoNotCountAgain();
        aBentBitBendsThree();
        theReceiverRemembersWhatItTook();
        lostWordsAreStirredBackSoon();
        CHECK.end();
    }

    private static void putsStirredBits() {
        LineCoder x = new LineCoder();
        List<Integer> sent = new ArrayList<>();
        int k = 0;
        for (int i = 0; i < WORDS.length; i++) {
            boolean control = i % 3 == 1;
            CHECK.same("put " + i, x.put(WORDS[i], control), 66 * (i + 1));
            CHECK.same("head of " + i, x.bit(1, k++), control ? 1 : 0);
            CHECK.same("head of " + i + ", second", x.bit(1, k++), control ? 0 : 1);
            for (int j = 0; j < 64; j++) {
                int before39 = sent.size() >= 39 ? sent.get(sent.size() - 39) : 1;
                int before58 = sent.size() >= 58 ? sent.get(sent.size() - 58) : 1;
                int plain = (WORDS[i] & 1L << j) != 0 ? 1 : 0;
                int due = before39 + before58 == 1 ? 1 - plain : plain;
                sent.add(due);
                if (j % 2 == i % 2) {
                    CHECK.same("bit " + j + " of word " + i, x.bit(1, k), due);
                }
                k++;
            }
        }
    }

    private static void putsUntilFull() {
        LineCoder x = new LineCoder();
        for (int i = 1; i <= 40; i++) {
            CHECK.same("put " + i, x.put(i, false), 66 * i);
        }
        CHECK.refuses("put when full", IllegalStateException.class, () -> x.put(41, true));
        CHECK.same("full still", x.count(1, 0), 2640);
        CHECK.same("lose too little", x.lose(1, 2574, 65), 65);
        CHECK.refuses("put with room for 65", IllegalStateException.class, () -> x.put(41, true));
        CHECK.same("lose the rest", x.lose(1, 2574, 65), 1);
        CHECK.same("put with room for 66", x.put(41, true), 2640);
        // Behind the 40th word, not behind those that were refused: only so it is stirred back.
        LineCoder y = new LineCoder();
        for (int i = 1; i <= 40; i++) {
            y.put(i, false);
        }
        y.lose(1, 0, 66);
        y.put(41, true);
        for (int k = 2574; k < 2640; k++) {
            CHECK.same("bit " + k, x.bit(1, k), y.bit(1, k));
        }
        CHECK.same("stream 0 beside a full one", x.send(0), 628);
    }

    private static void takesWhatWasPut() {
        LineCoder x = new LineCoder();
        CHECK.same("no word", x.word(), 0);
        for (int i = 0; i < 24; i++) {
            boolean control = i % 5 < 2;
            x.put(WORDS[i % WORDS.length], control);
            CHECK.same("take " + i, x.take(), control ? 1 : 0);
            CHECK.same("word " + i, x.word(), WORDS[i % WORDS.length]);
            CHECK.same("take nothing", x.take(), LineCoder.NONE);
            CHECK.same("word, still", x.word(), WORDS[i % WORDS.length]);
            CHECK.same("PLACE", x.count(1, 1), 66 * (i + 1));
        }
    }

    private static void rawBitsAreNotStirred() {
        LineCoder x = new LineCoder();
        LineCoder y = new LineCoder();
        x.raw(1, -1, 32);
        x.raw(1, 0, 32);
        x.put(99, true);
        y.put(99, true);
        for (int k = 0; k < 66; k++) {
            CHECK.same("bit behind raw ones", x.bit(1, 64 + k), y.bit(1, k));
        }
    }

    private static void huntsBitByBit() {
        LineCoder x = new LineCoder();
        x.raw(1, 0b00, 2);
        x.raw(1, 0, 32);
        x.raw(1, 0, 31);
        CHECK.same("65 bits", x.take(), LineCoder.NONE);
        CHECK.counts("65 bits", x, 1, 65, 0, 0, 0, 0, 0, 0);
        x.raw(1, 0, 1);
        CHECK.same("66 bits, not good", x.take(), LineCoder.SLIP);
        CHECK.counts("66 bits, not good", x, 1, 66, 1, 0, 0, 1, 0, 0);
        CHECK.same("65 bits left", x.take(), LineCoder.NONE);
        CHECK.same("no word by a slip", x.word(), 0);

        LineCoder y = new LineCoder();
        y.raw(1, 0b111, 3);
        y.put(0L, false);
        CHECK.same("1 1", y.take(), LineCoder.SLIP);
        CHECK.same("1 1 again", y.take(), LineCoder.SLIP);
        CHECK.same("1 0", y.take(), 1);
        CHECK.counts("1 0", y, 1, 69, 68, 0, 1, 2, 0, 0);
        // The word's own head is 1, and then 63 of its bits: a bit later than they were sent.
        CHECK.same("word, one bit off", y.word(), 1L);
    }

    private static void countsGoodOnesAnew() {
        LineCoder x = new LineCoder();
        for (int i = 0; i < 7; i++) {
            x.put(i, false);
            x.take();
            CHECK.same("good ones", x.count(1, 3), i + 1);
        }
        x.raw(1, 0b1, 1);
        x.put(0, true);
        CHECK.same("a slip", x.take(), LineCoder.SLIP);
        CHECK.counts("a slip", x, 1, 529, 463, 0, 0, 1, 0, 0);
        CHECK.same("good again", x.take(), 1);
        CHECK.counts("good again", x, 1, 529, 529, 0, 1, 1, 0, 0);
    }

    private static LineCoder following() {
        LineCoder x = new LineCoder();
        for (int i = 0; i < 8; i++) {
            x.put(i, i % 2 == 1);
            x.take();
        }
        return x;
    }

    private static void putAndTake(LineCoder x, long word, boolean good) {
        int k = x.count(1, 0);
        x.put(word, false);
        if (!good) {
            x.bend(1, k);
        }
        CHECK.same(good ? "a good one" : "a bad one", x.take(), good ? 0 : LineCoder.BAD);
        CHECK.same("its word", x.word(), word);
    }

    private static void followsBehindEightGoodOnes() {
        LineCoder x = following();
        CHECK.counts("eight good ones", x, 1, 528, 528, 1, 0, 0, 0, 0);
        putAndTake(x, 1234, false);
        CHECK.counts("one bad one", x, 1, 594, 594, 1, 1, 0, 1, 0);
        x.put(-3, false);
        x.bend(1, 595);
        CHECK.same("0 0 is not good", x.take(), LineCoder.BAD);
        CHECK.same("but taken", x.word(), -3);
        CHECK.counts("two bad ones", x, 1, 660, 660, 1, 2, 0, 2, 0);
        x.raw(1, 0, 32);
        x.raw(1, 0, 32);
        x.raw(1, 0, 1);
        CHECK.same("65 bits", x.take(), LineCoder.NONE);
        CHECK.counts("65 bits", x, 1, 725, 660, 1, 2, 0, 2, 0);
    }

    private static void losesItsPlaceWithFourOfSixteen() {
        LineCoder x = following();
        // The first and the last of four bad ones are the first and the last of sixteen.
        for (int i = 0; i < 15; i++) {
            putAndTake(x, i, i != 0 && i != 7 && i != 8);
        }
        CHECK.counts("three bad ones", x, 1, 1518, 1518, 1, 3, 0, 3, 0);
        putAndTake(x, 15, false);
        CHECK.counts("four bad ones", x, 1, 1584, 1584, 0, 0, 0, 4, 0);
        x.raw(1, 0b11, 2);
        x.raw(1, 0, 32);
        x.raw(1, 0, 32);
        CHECK.same("in HUNT", x.take(), LineCoder.SLIP);
        CHECK.counts("in HUNT", x, 1, 1650, 1585, 0, 0, 1, 4, 0);
    }

    private static void forgetsBadOnesBehindSixteen() {
        LineCoder x = following();
        for (int i = 0; i < 16; i++) {
            putAndTake(x, i, i != 0 && i != 7 && i != 8);
        }
        CHECK.same("sixteen, three of them bad", x.count(1, 3), 3);
        putAndTake(x, 16, false);
        CHECK.counts("the first bad one is out", x, 1, 1650, 1650, 1, 3, 0, 4, 0);
        putAndTake(x, 17, false);
        CHECK.counts("four within sixteen", x, 1, 1716, 1716, 0, 0, 0, 5, 0);
    }

    private static void oldBadOnesDoNotCountAgain() {
        LineCoder x = following();
        for (int i = 0; i < 4; i++) {
            putAndTake(x, i, false);
        }
        for (int i = 0; i < 8; i++) {
            CHECK.same("FOLLOWS again", x.count(1, 2), 0);
            CHECK.same("good ones", x.count(1, 3), i);
            putAndTake(x, i, true);
        }
        CHECK.counts("follows again", x, 1, 1320, 1320, 1, 0, 0, 4, 0);
        for (int i = 1; i < 4; i++) {
            putAndTake(x, i, false);
            CHECK.counts("bad ones since then", x, 1, 1320 + 66 * i, 1320 + 66 * i, 1, i, 0, 4 + i);
        }
        putAndTake(x, 4, false);
        CHECK.counts("lost again", x, 1, 1584, 1584, 0, 0, 0, 8, 0);
    }

    private static void aBentBitBendsThree() {
        LineCoder x = new LineCoder();
        x.put(0, false);
        x.put(0, false);
        x.bend(1, 2);
        x.take();
        CHECK.same("bent, and 39 and 58 behind it", x.word(), 1L | 1L << 39 | 1L << 58);
        x.take();
        CHECK.same("the next word", x.word(), 0);
        x.put(0, false);
        x.put(0, false);
        x.bend(1, 132 + 2 + 30);
        x.take();
        CHECK.same("bent", x.word(), 1L << 30);
        x.take();
        CHECK.same("bent behind it", x.word(), 1L << (30 + 39 - 64) | 1L << (30 + 58 - 64));
    }

    private static void theReceiverRemembersWhatItTook() {
        LineCoder x = new LineCoder();
        x.put(0x55, false);
        x.put(0x66, false);
        x.take();
        for (int k = 0; k < 66; k++) {
            x.bend(1, k);
        }
        x.take();
        CHECK.same("behind bits that were bent once taken", x.word(), 0x66);
    }

    private static void lostWordsAreStirredBackSoon() {
        LineCoder x = new LineCoder();
        x.put(0x55, false);
        x.put(0x66, true);
        x.put(0x77, false);
        x.lose(1, 0, 66);
        CHECK.same("second word", x.take(), 1);
        CHECK.same("second word, by ones", x.word() == 0x66, false);
        CHECK.same("third word", x.take(), 0);
        CHECK.same("third word, by the second", x.word(), 0x77);
    }
}
