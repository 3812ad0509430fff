/** Promise 4 (send), promise 5 (receive) and promise 14 (isPlus). */
public final class TenLineTest {
    private static final Check CHECK = new Check("TenLineTest");
    private static final int SIGN = 444;
    private static final int SIGN_MINUS = 0b0011111010;
    private static final int SIGN_PLUS = 0b1100000101;
    // D10.2: the same ten with either sign, behind which the sign is what it was.
    private static final int EVEN = 74;
    private static final int EVEN_TEN = 0b0101010101;
    // D21.0 with MINUS: behind it the sign is PLUS, so that a second one is WRONG.
    private static final int ODD = 21;
    private static final int ODD_TEN = 0b1010101011;
    private static final int NO_TEN = 0b0000000000;

    public static void main(String[] args) {
        sendsWithItsSign();
        sendsUntilFull();
        refusesNoSymbol();
        huntsBitByBit();
        followsFromSevenBits();
        takesTheFirstSign();
        aBadFirstTenIsTheFirst();
        badOnesMoveTheSign();
        wrongOnesMoveTheSign();
        losesItsPlaceWithFourMarks();
        everyFourthTakesAMark();
        aRowIsBrokenByAWrongOne();
        doesNotHuntWhileItFollows();
        signsAreApart();
        CHECK.end();
    }

    private static void sendsWithItsSign() {
        LineCoder x = new LineCoder();
        CHECK.same("send(0) with MINUS", x.send(0), 0b1001110100);
        CHECK.same("behind D0.0", x.isPlus(true), false);
        CHECK.same("send(32) with MINUS", x.send(32), 0b1001111001);
        CHECK.same("behind D0.1", x.isPlus(true), true);
        CHECK.same("send(32) with PLUS", x.send(32), 0b0110001001);
        CHECK.same("behind D0.1 again", x.isPlus(true), false);
        CHECK.same("send(7)", x.send(7), 0b1110001011);
        CHECK.same("behind D7.0", x.isPlus(true), true);
        CHECK.same("send(103)", x.send(103), 0b0001110011);
        CHECK.same("behind D7.3 with PLUS", x.isPlus(true), true);
        CHECK.same("send(39)", x.send(39), 0b0001111001);
        CHECK.same("behind D7.1 with PLUS", x.isPlus(true), true);
        CHECK.same("send(99)", x.send(99), 0b1100010011);
        CHECK.same("behind D3.3 with PLUS", x.isPlus(true), true);
        CHECK.same("bits", x.count(0, 0), 70);
        String due = "1001110100" + "1001111001" + "0110001001" + "1110001011" + "0001110011";
        for (int k = 0; k < due.length(); k++) {
            CHECK.same("sent bit " + k, x.bit(0, k), due.charAt(k) - '0');
        }
    }

    private static void sendsUntilFull() {
        LineCoder x = new LineCoder();
        x.send(32);
        for (int i = 1; i < 264; i++) {
            x.send(EVEN);
        }
        CHECK.same("full", x.count(0, 0), 2640);
        CHECK.refuses("send when full", IllegalStateException.class, () -> x.send(32));
        CHECK.refuses("send(256) when full", IllegalArgumentException.class, () -> x.send(256));
        CHECK.same("full still", x.count(0, 0), 2640);
        CHECK.same("sign when refused", x.isPlus(true), true);
        x.lose(0, 2000, 9);
        CHECK.refuses("send with room for nine", IllegalStateException.class, () -> x.send(EVEN));
        x.lose(0, 2000, 1);
        CHECK.same("send with room for ten", x.send(32), 0b0110001001);
        CHECK.same("stream 1 beside a full one", x.put(5, false), 66);
    }

    private static void refusesNoSymbol() {
        LineCoder x = new LineCoder();
        for (int symbol : new int[] {-1, 256, 283, 285, 479, 480, 511, 512, Integer.MIN_VALUE}) {
            CHECK.refuses("send(" + symbol + ")", IllegalArgumentException.class,
                    () -> x.send(symbol));
        }
        CHECK.counts("behind no symbols", x, 0, 0, 0, 0, 0, 0, 0, 0, 0, 0);
        CHECK.same("sign behind no symbols", x.isPlus(true), false);
    }

    private static void huntsBitByBit() {
        LineCoder x = new LineCoder();
        x.raw(0, 0b101, 3);
        CHECK.same("three bits", x.receive(), LineCoder.NONE);
        x.raw(0, 0b001, 3);
        CHECK.same("six bits", x.receive(), LineCoder.NONE);
        CHECK.counts("six bits", x, 0, 6, 0, 0, 0, 0);
        x.raw(0, 0b1, 1);
        CHECK.same("seven bits", x.receive(), LineCoder.SLIP);
        CHECK.counts("seven bits", x, 0, 7, 1, 0, 0, 1);
        CHECK.same("six bits left", x.receive(), LineCoder.NONE);
        x.raw(0, 0b111010, 6);
        CHECK.same("second bit", x.receive(), LineCoder.SLIP);
        CHECK.same("third bit", x.receive(), LineCoder.SLIP);
        CHECK.same("the sign", x.receive(), SIGN);
        CHECK.counts("the sign", x, 0, 13, 13, 1, 0, 3, 0, 0);
        CHECK.same("nothing left", x.receive(), LineCoder.NONE);
    }

    private static void followsFromSevenBits() {
        LineCoder x = new LineCoder();
        x.raw(0, 0b0011111, 7);
        CHECK.same("a mark alone", x.receive(), LineCoder.NONE);
        CHECK.counts("a mark alone", x, 0, 7, 0, 1, 0, 0);
        x.raw(0, 0, 2);
        CHECK.same("nine bits", x.receive(), LineCoder.NONE);
        x.raw(0, 0, 1);
        CHECK.same("ten bits", x.receive(), 508);
        CHECK.counts("ten bits", x, 0, 10, 10, 1, 0, 0, 0, 0);

        // The mark is lost once it was found: the ten that come there are the first one all the same.
        LineCoder y = new LineCoder();
        y.raw(0, 0b1100000, 7);
        CHECK.same("a turned mark alone", y.receive(), LineCoder.NONE);
        CHECK.same("the mark is lost", y.lose(0, 0, 7), 7);
        y.raw(0, EVEN_TEN, 10);
        CHECK.same("first ten with either sign", y.receive(), EVEN);
        CHECK.same("sign behind it", y.isPlus(false), false);
        y.raw(0, 0b0110001011, 10);
        CHECK.same("second ten with another sign", y.receive(), 0 + 512);
        CHECK.counts("a lost mark", y, 0, 20, 20, 1, 1, 0, 0, 1);

        LineCoder z = new LineCoder();
        z.raw(0, 0b0011111, 7);
        z.receive();
        z.lose(0, 0, 7);
        z.raw(0, 0b0110001001, 10);
        CHECK.same("first ten, not of a sign, with another sign", z.receive(), 32);
        CHECK.same("sign behind that", z.isPlus(false), false);
        CHECK.counts("that", z, 0, 10, 10, 1, 0, 0, 0, 0);
    }

    private static void takesTheFirstSign() {
        LineCoder x = new LineCoder();
        x.raw(0, SIGN_PLUS, 10);
        CHECK.same("first ten with PLUS", x.receive(), SIGN);
        CHECK.same("behind it", x.isPlus(false), false);
        x.raw(0, SIGN_PLUS, 10);
        CHECK.same("second ten with PLUS", x.receive(), SIGN + 512);
        CHECK.counts("second ten with PLUS", x, 0, 20, 20, 1, 1, 0, 0, 1);
        x.raw(0, SIGN_MINUS, 10);
        CHECK.same("third ten with MINUS", x.receive(), SIGN);
        CHECK.same("behind the third", x.isPlus(false), true);

        // A receiver that was in HUNT again takes the sign once more.
        LineCoder y = new LineCoder();
        y.raw(0, SIGN_MINUS, 10);
        y.receive();
        for (int i = 0; i < 4; i++) {
            y.raw(0, ODD_TEN, 10);
            CHECK.same("WRONG " + i, y.receive(), ODD + 512);
        }
        CHECK.counts("lost by WRONG ones", y, 0, 50, 50, 0, 0, 0, 0, 4);
        CHECK.same("sign in HUNT", y.isPlus(false), true);
        y.raw(0, SIGN_MINUS, 10);
        CHECK.same("first ten behind HUNT", y.receive(), SIGN);
        CHECK.counts("first ten behind HUNT", y, 0, 60, 60, 1, 0, 0, 0, 4);
    }

    private static void aBadFirstTenIsTheFirst() {
        LineCoder x = new LineCoder();
        x.raw(0, 0b0011111111, 10);
        CHECK.same("bad first ten", x.receive(), LineCoder.BAD);
        CHECK.same("sign behind it", x.isPlus(false), true);
        CHECK.counts("bad first ten", x, 0, 10, 10, 1, 1, 0, 1, 0);
        x.raw(0, SIGN_MINUS, 10);
        CHECK.same("second ten", x.receive(), SIGN + 512);
        CHECK.counts("second ten", x, 0, 20, 20, 1, 2, 0, 1, 1);
    }

    private static void badOnesMoveTheSign() {
        LineCoder x = new LineCoder();
        x.raw(0, SIGN_PLUS, 10);
        x.receive();
        badMoves(x, 0b1111110101, true, "six ones");
        badMoves(x, 0b0000000101, false, "no ones, even four");
        x.clear();
        x.raw(0, SIGN_PLUS, 10);
        x.receive();
        badMoves(x, 0b0001111011, true, "000111 and three ones");
        badMoves(x, 0b1110000000, false, "111000 and no ones");
        x.clear();
        x.raw(0, SIGN_PLUS, 10);
        x.receive();
        badMoves(x, 0b1111110011, true, "six ones and 0011");
        badMoves(x, 0b0000001100, false, "no ones and 1100");
        badMoves(x, 0b1110000011, true, "111000 and 0011");
    }

    private static void wrongOnesMoveTheSign() {
        LineCoder x = new LineCoder();
        x.raw(0, SIGN_PLUS, 10);
        x.receive();
        x.raw(0, 0b0001111001, 10);
        CHECK.same("000111 with MINUS", x.receive(), 39 + 512);
        CHECK.same("sign behind 000111", x.isPlus(false), true);
        x.raw(0, 0b1110001001, 10);
        CHECK.same("111000 with PLUS", x.receive(), 39 + 512);
        CHECK.same("sign behind 111000", x.isPlus(false), false);
        x.raw(0, 0b1100010011, 10);
        CHECK.same("0011 with MINUS", x.receive(), 99 + 512);
        CHECK.same("sign behind 0011", x.isPlus(false), true);
        x.raw(0, 0b1100011100, 10);
        CHECK.same("1100 with PLUS", x.receive(), 99 + 512);
        CHECK.same("sign behind 1100", x.isPlus(false), false);
    }

    private static void badMoves(LineCoder x, int ten, boolean due, String what) {
        CHECK.same(what + " is no symbol's", x.symbol(ten), LineCoder.NONE);
        x.raw(0, ten, 10);
        CHECK.same(what, x.receive(), LineCoder.BAD);
        CHECK.same("sign behind " + what, x.isPlus(false), due);
    }

    private static void losesItsPlaceWithFourMarks() {
        LineCoder x = new LineCoder();
        x.raw(0, SIGN_PLUS, 10);
        x.receive();
        for (int marks = 1; marks <= 3; marks++) {
            x.raw(0, NO_TEN, 10);
            CHECK.same("BAD " + marks, x.receive(), LineCoder.BAD);
            CHECK.counts("BAD " + marks, x, 0, 10 + 10 * marks, 10 + 10 * marks, 1, marks, 0, marks);
        }
        x.raw(0, NO_TEN, 10);
        CHECK.same("BAD 4", x.receive(), LineCoder.BAD);
        CHECK.counts("BAD 4", x, 0, 50, 50, 0, 0, 0, 4, 0);
        x.raw(0, EVEN_TEN, 10);
        CHECK.same("in HUNT", x.receive(), LineCoder.SLIP);
        CHECK.counts("in HUNT", x, 0, 60, 51, 0, 0, 1, 4, 0);
    }

    private static void everyFourthTakesAMark() {
        LineCoder x = new LineCoder();
        x.raw(0, SIGN_PLUS, 10);
        x.receive();
        for (int i = 0; i < 3; i++) {
            x.raw(0, NO_TEN, 10);
            x.receive();
        }
        int[] due = {3, 3, 3, 2, 2, 2, 2, 1, 1, 1, 1, 0, 0, 0, 0, 0};
        for (int i = 0; i < due.length; i++) {
            x.raw(0, EVEN_TEN, 10);
            CHECK.same("even one " + i, x.receive(), EVEN);
            CHECK.same("MARKS behind even one " + i, x.count(0, 3), due[i]);
        }
        x.raw(0, NO_TEN, 10);
        x.receive();
        CHECK.same("MARKS are not below 0", x.count(0, 3), 1);

        // The first ten behind HUNT is one of the row.
        LineCoder y = new LineCoder();
        y.raw(0, SIGN_PLUS, 10);
        y.receive();
        for (int i = 0; i < 3; i++) {
            y.raw(0, EVEN_TEN, 10);
            y.receive();
        }
        y.raw(0, NO_TEN, 10);
        y.receive();
        for (int i = 0; i < 3; i++) {
            y.raw(0, EVEN_TEN, 10);
            y.receive();
        }
        CHECK.same("a row begins anew behind a BAD one", y.count(0, 3), 1);
        y.raw(0, EVEN_TEN, 10);
        y.receive();
        CHECK.same("the fourth behind a BAD one", y.count(0, 3), 0);
    }

    private static void aRowIsBrokenByAWrongOne() {
        LineCoder x = new LineCoder();
        x.raw(0, SIGN_PLUS, 10);
        x.raw(0, SIGN_PLUS, 10);
        for (int i = 0; i < 3; i++) {
            x.raw(0, EVEN_TEN, 10);
        }
        x.raw(0, SIGN_PLUS, 10);
        for (int i = 0; i < 3; i++) {
            x.raw(0, EVEN_TEN, 10);
        }
        for (int i = 0; i < 9; i++) {
            x.receive();
        }
        CHECK.counts("two WRONG ones, three even ones behind each", x, 0, 90, 90, 1, 2, 0, 0, 2);
        x.raw(0, EVEN_TEN, 10);
        x.receive();
        CHECK.same("a fourth even one", x.count(0, 3), 1);
    }

    private static void doesNotHuntWhileItFollows() {
        LineCoder x = new LineCoder();
        x.raw(0, SIGN_PLUS, 10);
        x.receive();
        x.raw(0, 0b1, 1);
        x.raw(0, SIGN_MINUS, 10);
        // A mark begins at the second of these ten bits, 1001111101.
        CHECK.same("ten bits, one off", x.receive(), LineCoder.BAD);
        CHECK.counts("one off", x, 0, 21, 20, 1, 1, 0, 1, 0);
        CHECK.same("one bit left", x.receive(), LineCoder.NONE);
        CHECK.counts("one bit left", x, 0, 21, 20, 1, 1, 0, 1, 0);
    }

    private static void signsAreApart() {
        LineCoder x = new LineCoder();
        x.send(SIGN);
        CHECK.same("sender behind a sign", x.isPlus(true), true);
        CHECK.same("receiver before it", x.isPlus(false), false);
        x.receive();
        CHECK.same("receiver behind it", x.isPlus(false), true);
        x.send(32);
        CHECK.same("sender behind D0.1", x.isPlus(true), false);
        CHECK.same("receiver, still", x.isPlus(false), true);
        x.raw(0, SIGN_MINUS, 10);
        CHECK.same("sender, by raw bits", x.isPlus(true), false);
        x.bend(0, 0);
        x.put(3, true);
        CHECK.same("sender, by bent bits and words", x.isPlus(true), false);
        CHECK.same("receiver, by bent bits and words", x.isPlus(false), true);
    }
}
