/** The edges that the document names for tens: promises 2, 3, 4, 5 and 14, a method for each. */
public final class TenEdgeTest {
    private static final Check CHECK = new Check("TenEdgeTest");
    private static final Class<IllegalArgumentException> ARGUMENT = IllegalArgumentException.class;
    private static final Class<IllegalStateException> STATE = IllegalStateException.class;
    private static final int NONE = LineCoder.NONE;
    private static final int BAD = LineCoder.BAD;
    private static final int SLIP = LineCoder.SLIP;

    private static final int MARK = 0b0011111;
    private static final int TURNED_MARK = 0b1100000;
    private static final int SIGN = 444;
    private static final int SIGN_MINUS = 0b0011111010;
    private static final int SIGN_PLUS = 0b1100000101;
    // D10.2: the same ten with either sign, behind which the sign is what it was.
    private static final int EVEN = 74;
    private static final int EVEN_TEN = 0b0101010101;
    // D21.0 with MINUS: behind it the sign is PLUS.
    private static final int ODD = 21;
    private static final int ODD_TEN = 0b1010101011;
    // No SYMBOL's, and behind it the sign is MINUS.
    private static final int NO_TEN = 0;

    // Just outside each set of numbers that are SYMBOLS, and far outside.
    private static final int[] NO_SYMBOLS = {
        Integer.MIN_VALUE, -256, -1, 256, 283, 285, 315, 317, 347, 349, 379, 381, 411, 413, 443, 445,
        471, 475, 477, 478, 479, 502, 504, 506, 511, 512, 513, 768, 956, 1024, Integer.MAX_VALUE
    };
    private static final int[] EDGE_SYMBOLS = {
        0, 255, 284, 316, 348, 380, 412, 444, 476, 503, 507, 508, 509, 510
    };

    public static void main(String[] args) {
        codeOfNoSymbol();
        codeOfTheFirstAndLastOnes();
        symbolOfNoTen();
        symbolOfTensThatAreNone();
        sendOfNoSymbol();
        sendWithoutRoom();
        sendOfNoSymbolWithoutRoom();
        receiveWithoutBits();
        huntWithFewerThanSeven();
        huntWithSevenThatAreNoMark();
        huntWithFewerThanTen();
        huntWithTen();
        followWithFewerThanTen();
        badOnes();
        badOnesMoveTheSign();
        wrongOnes();
        theFirstOneBehindHunt();
        theFirstOneBehindHuntAgain();
        theFirstOneIsBad();
        marksNotBelowNone();
        eachFourthInARow();
        aRowIsBroken();
        theFourthMark();
        theFourthMarkByWrongOnes();
        huntFromWhereTheLastTenEnded();
        aRowDoesNotOutliveHunt();
        signsAtFirst();
        signsAreApart();
        CHECK.end();
    }

    private static void codeOfNoSymbol() {
        for (int symbol : NO_SYMBOLS) {
            LineCoder x = new LineCoder();
            CHECK.refuses("code(" + symbol + ", false)", ARGUMENT, () -> x.code(symbol, false));
            CHECK.refuses("code(" + symbol + ", true)", ARGUMENT, () -> x.code(symbol, true));
        }
    }

    private static void codeOfTheFirstAndLastOnes() {
        int[] withMinus = {
            0b1001110100, 0b1010110001, 0b0011110100, 0b0011111001, 0b0011110101, 0b0011110011,
            0b0011110010, 0b0011111010, 0b0011110110, 0b1110101000, 0b1101101000, 0b0011111000,
            0b1011101000, 0b0111101000
        };
        LineCoder x = new LineCoder();
        for (int i = 0; i < EDGE_SYMBOLS.length; i++) {
            int symbol = EDGE_SYMBOLS[i];
            CHECK.same("code(" + symbol + ", false)", x.code(symbol, false), withMinus[i]);
            // Each bit of all these is turned round with PLUS.
            CHECK.same("code(" + symbol + ", true)", x.code(symbol, true), withMinus[i] ^ 0b1111111111);
        }
    }

    private static void symbolOfNoTen() {
        LineCoder x = new LineCoder();
        for (int code : new int[] {Integer.MIN_VALUE, -1024, -1, 1024, 1025, Integer.MAX_VALUE}) {
            CHECK.refuses("symbol(" + code + ")", ARGUMENT, () -> x.symbol(code));
        }
        CHECK.refuses("symbol(1024 + the ten of 0)", ARGUMENT, () -> x.symbol(1024 + 628));
        CHECK.refuses("symbol(the ten of 0 - 1024)", ARGUMENT, () -> x.symbol(628 - 1024));
    }

    private static void symbolOfTensThatAreNone() {
        LineCoder x = new LineCoder();
        CHECK.same("symbol(0)", x.symbol(0), NONE);
        CHECK.same("symbol(1023)", x.symbol(1023), NONE);
        // A SIX with MINUS before a FOUR that only MINUS has: no sign makes both.
        CHECK.same("SIX and FOUR of two signs", x.symbol(0b1001111011), NONE);
        CHECK.same("1110 behind a SIX that needs 0111", x.symbol(0b1000111110), NONE);
        CHECK.same("the ten with MINUS", x.symbol(SIGN_MINUS), SIGN);
        CHECK.same("the ten with PLUS", x.symbol(SIGN_PLUS), SIGN);
        CHECK.same("the ten with both", x.symbol(EVEN_TEN), EVEN);
        CHECK.same("the least ten of a SYMBOL", x.symbol(0b0001010111), 503);
        CHECK.same("the greatest ten of a SYMBOL", x.symbol(0b1110101000), 503);
    }

    private static void sendOfNoSymbol() {
        LineCoder x = new LineCoder();
        for (int symbol : NO_SYMBOLS) {
            CHECK.refuses("send(" + symbol + ")", ARGUMENT, () -> x.send(symbol));
        }
        Twins.areAlike(CHECK, "behind no SYMBOLS", x, new LineCoder());
        LineCoder y = new LineCoder();
        for (int symbol : EDGE_SYMBOLS) {
            boolean plus = y.isPlus(true);
            CHECK.same("send(" + symbol + ")", y.send(symbol), y.code(symbol, plus));
        }
    }

    /** An object whose STREAM 0 has so many bits, all of them 1 0 in turn. */
    private static LineCoder filledWith(int many) {
        LineCoder x = new LineCoder();
        for (int left = many; left > 0; left -= 32) {
            x.raw(0, 0xAAAAAAAA, Math.min(left, 32));
        }
        CHECK.same("filled", x.count(0, 0), many);
        return x;
    }

    private static void sendWithoutRoom() {
        LineCoder x = filledWith(2631);
        CHECK.refuses("send with room for nine", STATE, () -> x.send(ODD));
        CHECK.same("bits when refused", x.count(0, 0), 2631);
        CHECK.same("sign when refused", x.isPlus(true), false);
        CHECK.same("lose one", x.lose(0, 2630, 1), 1);
        CHECK.same("send with room for ten", x.send(ODD), ODD_TEN);
        CHECK.same("full", x.count(0, 0), 2640);
        CHECK.same("sign when sent", x.isPlus(true), true);
        CHECK.refuses("send with no room", STATE, () -> x.send(EVEN));
        CHECK.same("full still", x.count(0, 0), 2640);
        CHECK.same("the last bit", x.bit(0, 2639), 1);
        // Bits that were received still need their room.
        for (int i = 0; i < 20; i++) {
            x.receive();
        }
        CHECK.refuses("send with twenty received", STATE, () -> x.send(EVEN));
    }

    private static void sendOfNoSymbolWithoutRoom() {
        LineCoder x = filledWith(2640);
        CHECK.refuses("send(256) with no room", ARGUMENT, () -> x.send(256));
        CHECK.refuses("send(-1) with no room", ARGUMENT, () -> x.send(-1));
        CHECK.refuses("send(0) with no room", STATE, () -> x.send(0));
        Twins.areAlike(CHECK, "full and refused", x, filledWith(2640));
    }

    private static void receiveWithoutBits() {
        LineCoder x = new LineCoder();
        CHECK.same("receive in HUNT without bits", x.receive(), NONE);
        CHECK.counts("without bits", x, 0, 0, 0, 0, 0, 0, 0, 0);
        x.raw(0, SIGN_MINUS, 10);
        CHECK.same("a sign", x.receive(), SIGN);
        CHECK.same("receive when it FOLLOWS without bits", x.receive(), NONE);
        CHECK.counts("FOLLOWS without bits", x, 0, 10, 10, 1, 0, 0, 0, 0);
    }

    private static void huntWithFewerThanSeven() {
        for (int many = 1; many <= 6; many++) {
            LineCoder x = new LineCoder();
            x.raw(0, MARK >> 7 - many, many);
            CHECK.same(many + " bits of a mark", x.receive(), NONE);
            CHECK.counts(many + " bits of a mark", x, 0, many, 0, 0, 0, 0, 0, 0);
            LineCoder y = new LineCoder();
            y.raw(0, EVEN_TEN, many);
            CHECK.same(many + " bits of none", y.receive(), NONE);
            CHECK.counts(many + " bits of none", y, 0, many, 0, 0, 0, 0, 0, 0);
        }
    }

    private static void huntWithSevenThatAreNoMark() {
        for (int seven = 0; seven < 128; seven++) {
            LineCoder x = new LineCoder();
            x.raw(0, seven, 7);
            boolean mark = seven == MARK || seven == TURNED_MARK;
            CHECK.same("seven bits " + seven, x.receive(), mark ? NONE : SLIP);
            CHECK.counts("seven bits " + seven, x, 0, 7, mark ? 0 : 1, mark ? 1 : 0, 0, mark ? 0 : 1);
            CHECK.same("six bits behind " + seven, x.receive(), NONE);
            CHECK.same("PLACE behind " + seven, x.count(0, 1), mark ? 0 : 1);
        }
    }

    private static void huntWithFewerThanTen() {
        for (int many = 7; many <= 9; many++) {
            LineCoder x = new LineCoder();
            x.raw(0, SIGN_PLUS >> 10 - many, many);
            CHECK.same(many + " bits of a sign", x.receive(), NONE);
            CHECK.counts(many + " bits of a sign", x, 0, many, 0, 1, 0, 0, 0, 0);
            CHECK.same(many + " bits still", x.receive(), NONE);
            CHECK.same("sign, not yet taken", x.isPlus(false), false);
            x.raw(0, SIGN_PLUS, 10 - many);
            CHECK.same("the bits that were due", x.receive(), SIGN);
            CHECK.counts("the bits that were due", x, 0, 10, 10, 1, 0, 0, 0, 0);
            LineCoder y = new LineCoder();
            y.raw(0, EVEN_TEN, many);
            CHECK.same(many + " bits without a mark", y.receive(), SLIP);
        }
        // It FOLLOWS, once it has found a mark: bits that are bent then are no mark to look for.
        LineCoder z = new LineCoder();
        z.raw(0, MARK, 7);
        z.receive();
        z.bend(0, 0);
        z.bend(0, 1);
        z.raw(0, 0, 3);
        CHECK.same("ten bits whose mark was bent", z.receive(), BAD);
        CHECK.counts("ten bits whose mark was bent", z, 0, 10, 10, 1, 1, 0, 1, 0);
    }

    private static void huntWithTen() {
        LineCoder x = new LineCoder();
        x.raw(0, SIGN_MINUS, 10);
        CHECK.same("found and taken in one step", x.receive(), SIGN);
        CHECK.counts("found and taken", x, 0, 10, 10, 1, 0, 0, 0, 0);
        LineCoder y = new LineCoder();
        y.raw(0, 1, 1);
        y.raw(0, SIGN_PLUS, 10);
        CHECK.same("a bit before", y.receive(), SLIP);
        CHECK.same("then found and taken", y.receive(), SIGN);
        CHECK.counts("then found and taken", y, 0, 11, 11, 1, 0, 1, 0, 0);
    }

    private static LineCoder following(int firstTen) {
        LineCoder x = new LineCoder();
        x.raw(0, firstTen, 10);
        CHECK.same("the first ten", x.receive(), SIGN);
        return x;
    }

    private static void receives(LineCoder x, int ten, int due, int marks) {
        x.raw(0, ten, 10);
        CHECK.same("ten " + Integer.toBinaryString(ten), x.receive(), due);
        CHECK.same("MARKS behind " + Integer.toBinaryString(ten), x.count(0, 3), marks);
    }

    private static void followWithFewerThanTen() {
        LineCoder x = following(SIGN_MINUS);
        for (int many = 1; many <= 9; many++) {
            x.raw(0, 0, 1);
            CHECK.same(many + " bits behind a sign", x.receive(), NONE);
            CHECK.counts(many + " bits behind a sign", x, 0, 10 + many, 10, 1, 0, 0, 0, 0);
        }
        x.raw(0, 0, 1);
        CHECK.same("ten bits behind a sign", x.receive(), BAD);
        CHECK.counts("ten bits behind a sign", x, 0, 20, 20, 1, 1, 0, 1, 0);
    }

    private static void badOnes() {
        LineCoder x = following(SIGN_PLUS);
        receives(x, NO_TEN, BAD, 1);
        receives(x, 0b1001111011, BAD, 2);
        receives(x, 0b1000111110, BAD, 3);
        CHECK.counts("three BAD ones", x, 0, 40, 40, 1, 3, 0, 3, 0);
    }

    private static void badOnesMoveTheSign() {
        LineCoder x = following(SIGN_PLUS);
        CHECK.same("MINUS", x.isPlus(false), false);
        receives(x, 0b1111111010, BAD, 1);
        CHECK.same("six ones, then two", x.isPlus(false), true);
        // Right with PLUS, so that it is not WRONG.
        receives(x, 0b0110001001, 32, 1);
        CHECK.same("behind it", x.isPlus(false), false);
        receives(x, 0b0000001111, BAD, 2);
        CHECK.same("no ones, then four", x.isPlus(false), true);
        receives(x, 0b1111111100, BAD, 3);
        CHECK.same("six ones, then 1100", x.isPlus(false), false);
    }

    private static void wrongOnes() {
        LineCoder x = following(SIGN_MINUS);
        CHECK.same("PLUS", x.isPlus(false), true);
        receives(x, ODD_TEN, ODD + 512, 1);
        CHECK.counts("a WRONG one", x, 0, 20, 20, 1, 1, 0, 0, 1);
        CHECK.same("sign by its bits", x.isPlus(false), true);
        receives(x, SIGN_MINUS, SIGN + 512, 2);
        CHECK.same("0 WRONG", x.code(0, false), 0b1001110100);
        receives(x, 0b1001110100, 0 + 512, 3);
        CHECK.same("sign behind 0 by its bits", x.isPlus(false), false);
        CHECK.counts("three WRONG ones", x, 0, 40, 40, 1, 3, 0, 0, 3);
        receives(x, EVEN_TEN, EVEN, 3);
    }

    private static void theFirstOneBehindHunt() {
        LineCoder x = new LineCoder();
        receives(x, SIGN_PLUS, SIGN, 0);
        CHECK.counts("with PLUS, its own is MINUS", x, 0, 10, 10, 1, 0, 0, 0, 0);
        CHECK.same("sign behind it", x.isPlus(false), false);
        receives(x, SIGN_PLUS, SIGN + 512, 1);
        CHECK.counts("the second one", x, 0, 20, 20, 1, 1, 0, 0, 1);
        // Also if its mark was lost meanwhile, and it is no SIGN.
        LineCoder y = new LineCoder();
        y.raw(0, MARK, 7);
        y.receive();
        y.lose(0, 0, 7);
        receives(y, 0b0110001011, 0, 0);
        CHECK.same("0 with PLUS", y.isPlus(false), true);
        LineCoder z = new LineCoder();
        z.raw(0, MARK, 7);
        z.receive();
        z.lose(0, 0, 7);
        receives(z, 0b1001110100, 0, 0);
        CHECK.same("0 with MINUS", z.isPlus(false), false);
    }

    private static void theFirstOneBehindHuntAgain() {
        LineCoder x = following(SIGN_MINUS);
        for (int i = 0; i < 4; i++) {
            receives(x, 0b1111111111, BAD, i == 3 ? 0 : i + 1);
        }
        CHECK.same("in HUNT with PLUS", x.isPlus(false), true);
        CHECK.same("in HUNT", x.count(0, 2), 0);
        receives(x, SIGN_MINUS, SIGN, 0);
        CHECK.counts("its sign is taken again", x, 0, 60, 60, 1, 0, 0, 4, 0);
        receives(x, SIGN_MINUS, SIGN + 512, 1);
        // One that is a SYMBOL's with either sign, its mark being lost, has no other sign to take.
        LineCoder y = following(SIGN_MINUS);
        for (int i = 0; i < 4; i++) {
            receives(y, 0b1111111111, BAD, i == 3 ? 0 : i + 1);
        }
        y.raw(0, TURNED_MARK, 7);
        CHECK.same("a mark in HUNT again", y.receive(), NONE);
        CHECK.same("the mark is lost", y.lose(0, 50, 7), 7);
        receives(y, EVEN_TEN, EVEN, 0);
        CHECK.same("PLUS, still", y.isPlus(false), true);
    }

    private static void theFirstOneIsBad() {
        LineCoder x = new LineCoder();
        receives(x, 0b1100000000, BAD, 1);
        CHECK.same("sign by its bits", x.isPlus(false), false);
        CHECK.counts("the first one is BAD", x, 0, 10, 10, 1, 1, 0, 1, 0);
        receives(x, SIGN_PLUS, SIGN + 512, 2);
    }

    private static void marksNotBelowNone() {
        LineCoder x = following(SIGN_PLUS);
        for (int i = 0; i < 12; i++) {
            receives(x, EVEN_TEN, EVEN, 0);
        }
        for (int marks = 1; marks <= 3; marks++) {
            receives(x, NO_TEN, BAD, marks);
        }
        CHECK.same("FOLLOWS with three", x.count(0, 2), 1);
        receives(x, NO_TEN, BAD, 0);
        CHECK.same("FOLLOWS with four", x.count(0, 2), 0);
    }

    private static void eachFourthInARow() {
        LineCoder x = following(SIGN_PLUS);
        for (int marks = 1; marks <= 3; marks++) {
            receives(x, NO_TEN, BAD, marks);
        }
        int[] due = {3, 3, 3, 2, 2, 2, 2, 1, 1, 1, 1, 0, 0, 0, 0, 0};
        for (int marks : due) {
            receives(x, EVEN_TEN, EVEN, marks);
        }
        // The first one behind HUNT is one in a row: with it these are four, then eight.
        LineCoder y = following(SIGN_PLUS);
        receives(y, EVEN_TEN, EVEN, 0);
        receives(y, EVEN_TEN, EVEN, 0);
        receives(y, EVEN_TEN, EVEN, 0);
        receives(y, NO_TEN, BAD, 1);
        receives(y, EVEN_TEN, EVEN, 1);
    }

    private static void aRowIsBroken() {
        LineCoder x = following(SIGN_PLUS);
        receives(x, NO_TEN, BAD, 1);
        for (int i = 0; i < 3; i++) {
            receives(x, EVEN_TEN, EVEN, 1);
        }
        receives(x, NO_TEN, BAD, 2);
        for (int i = 0; i < 3; i++) {
            receives(x, EVEN_TEN, EVEN, 2);
        }
        receives(x, SIGN_PLUS, SIGN + 512, 3);
        for (int i = 0; i < 3; i++) {
            receives(x, EVEN_TEN, EVEN, 3);
        }
        receives(x, EVEN_TEN, EVEN, 2);
    }

    private static void theFourthMark() {
        LineCoder x = following(SIGN_PLUS);
        receives(x, NO_TEN, BAD, 1);
        receives(x, SIGN_PLUS, SIGN + 512, 2);
        receives(x, NO_TEN, BAD, 3);
        CHECK.counts("three MARKS", x, 0, 40, 40, 1, 3, 0, 2, 1);
        receives(x, SIGN_PLUS, SIGN + 512, 0);
        CHECK.counts("the fourth MARK", x, 0, 50, 50, 0, 0, 0, 2, 2);
        // A mark that was taken back is no mark: there are four only behind five.
        LineCoder y = following(SIGN_PLUS);
        for (int marks = 1; marks <= 3; marks++) {
            receives(y, NO_TEN, BAD, marks);
        }
        for (int i = 0; i < 4; i++) {
            receives(y, EVEN_TEN, EVEN, i < 3 ? 3 : 2);
        }
        receives(y, NO_TEN, BAD, 3);
        CHECK.same("FOLLOWS behind four BAD ones", y.count(0, 2), 1);
        receives(y, NO_TEN, BAD, 0);
        CHECK.counts("the fifth BAD one", y, 0, 100, 100, 0, 0, 0, 5, 0);
    }

    private static void theFourthMarkByWrongOnes() {
        LineCoder x = following(SIGN_MINUS);
        for (int i = 0; i < 4; i++) {
            receives(x, ODD_TEN, ODD + 512, i == 3 ? 0 : i + 1);
        }
        CHECK.counts("four WRONG ones", x, 0, 50, 50, 0, 0, 0, 0, 4);
    }

    private static void huntFromWhereTheLastTenEnded() {
        LineCoder x = following(SIGN_PLUS);
        for (int i = 0; i < 3; i++) {
            receives(x, NO_TEN, BAD, i + 1);
        }
        // A mark begins with the last two bits of the fourth ten: it is not seen.
        receives(x, 0b1111111100, BAD, 0);
        CHECK.counts("in HUNT", x, 0, 50, 50, 0, 0, 0, 4, 0);
        x.raw(0, 0b11111, 5);
        CHECK.same("five bits behind it", x.receive(), NONE);
        x.raw(0, 0b00, 2);
        CHECK.same("seven bits behind it", x.receive(), SLIP);
        CHECK.counts("a bit in HUNT", x, 0, 57, 51, 0, 0, 1, 4, 0);
        x.raw(0, 0b111, 3);
        for (int i = 0; i < 3; i++) {
            CHECK.same("bits in HUNT", x.receive(), SLIP);
        }
        CHECK.same("six bits in HUNT", x.receive(), NONE);
        CHECK.counts("six bits in HUNT", x, 0, 60, 54, 0, 0, 4, 4, 0);
    }

    private static void aRowDoesNotOutliveHunt() {
        LineCoder x = following(SIGN_PLUS);
        for (int i = 0; i < 4; i++) {
            receives(x, NO_TEN, BAD, i == 3 ? 0 : i + 1);
        }
        receives(x, SIGN_PLUS, SIGN, 0);
        receives(x, NO_TEN, BAD, 1);
        for (int i = 0; i < 3; i++) {
            receives(x, EVEN_TEN, EVEN, 1);
        }
        receives(x, EVEN_TEN, EVEN, 0);
    }

    private static void signsAtFirst() {
        LineCoder x = new LineCoder();
        CHECK.same("the sender's at first", x.isPlus(true), false);
        CHECK.same("the receiver's at first", x.isPlus(false), false);
        x.code(ODD, true);
        x.symbol(ODD_TEN);
        CHECK.same("the sender's behind code", x.isPlus(true), false);
        CHECK.same("the receiver's behind symbol", x.isPlus(false), false);
    }

    private static void signsAreApart() {
        LineCoder x = new LineCoder();
        x.send(SIGN);
        CHECK.same("the sender's behind a sign", x.isPlus(true), true);
        CHECK.same("the receiver's before it", x.isPlus(false), false);
        x.receive();
        CHECK.same("the receiver's behind it", x.isPlus(false), true);
        x.send(SIGN);
        CHECK.same("the sender's behind a second", x.isPlus(true), false);
        CHECK.same("the receiver's before the second", x.isPlus(false), true);
        x.receive();
        x.raw(0, SIGN_MINUS, 10);
        x.receive();
        CHECK.same("the receiver's behind raw bits", x.isPlus(false), true);
        CHECK.same("the sender's behind raw bits", x.isPlus(true), false);
    }
}
