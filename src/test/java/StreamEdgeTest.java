/** The edges that the document names for STREAMS: promises 9 to 13, a method for each. */
public final class StreamEdgeTest {
    private static final Check CHECK = new Check("StreamEdgeTest");
    private static final Class<IllegalArgumentException> ARGUMENT = IllegalArgumentException.class;
    private static final Class<IllegalStateException> STATE = IllegalStateException.class;
    private static final Class<IndexOutOfBoundsException> INDEX = IndexOutOfBoundsException.class;
    private static final int NONE = LineCoder.NONE;
    private static final int LEAST = Integer.MIN_VALUE;
    private static final int MOST = Integer.MAX_VALUE;
    private static final int[] NO_STREAMS = {LEAST, -2, -1, 2, 3, 256, MOST};

    public static void main(String[] args) {
        for (int stream = 0; stream < 2; stream++) {
            rawOfTooFewOrTooMany(stream);
            rawOfNoneAndOfAll(stream);
            rawWithoutRoom(stream);
            rawOfTooManyWithoutRoom(stream);
            bendOfNoBit(stream);
            bendOfTheFirstAndLast(stream);
            loseOfFewerThanNone(stream);
            loseBelowThePlace(stream);
            loseOfAsManyAsThereAre(stream);
            loseBehindTheLast(stream);
            bitOfNone(stream);
            countOfNoneOfThoseTold(stream);
            countOfAnEmptyStream(stream);
            countOfAFullStream(stream);
        }
        rawToNoStream();
        bendInNoStream();
        bendBeforeThePlace();
        loseInNoStream();
        loseBelowThePlaceBehindSlips();
        bitOfNoStream();
        countOfNoStream();
        countOfWrongOnesInStreamOne();
        CHECK.end();
    }

    private static LineCoder filledWith(int stream, int many) {
        LineCoder x = new LineCoder();
        for (int left = many; left > 0; left -= 32) {
            x.raw(stream, 0xAAAAAAAA, Math.min(left, 32));
        }
        CHECK.same("filled", x.count(stream, 0), many);
        return x;
    }

    private static void isBits(String when, LineCoder x, int stream, String due) {
        StringBuilder got = new StringBuilder();
        int size = x.count(stream, 0);
        for (int k = 0; k < size; k++) {
            got.append(x.bit(stream, k));
        }
        CHECK.same(when + ": " + got + " is " + due, got.toString().equals(due), true);
    }

    private static void rawOfTooFewOrTooMany(int stream) {
        LineCoder x = new LineCoder();
        for (int many : new int[] {LEAST, -32, -1, 33, 34, 64, MOST}) {
            CHECK.refuses("raw of " + many, ARGUMENT, () -> x.raw(stream, -1, many));
        }
        Twins.areAlike(CHECK, "raw, refused", x, new LineCoder());
    }

    private static void rawOfNoneAndOfAll(int stream) {
        LineCoder x = new LineCoder();
        CHECK.same("raw of none", x.raw(stream, -1, 0), 0);
        isBits("raw of none", x, stream, "");
        CHECK.same("raw of one", x.raw(stream, 2, 1), 1);
        isBits("raw of one", x, stream, "0");
        CHECK.same("raw of 32", x.raw(stream, 0x80000001, 32), 33);
        isBits("raw of 32", x, stream, "010000000000000000000000000000001");
        CHECK.same("none behind them", x.raw(stream, 5, 0), 33);
        CHECK.same("the other STREAM", x.count(1 - stream, 0), 0);
        LineCoder y = new LineCoder();
        CHECK.same("raw of 31", y.raw(stream, 0x80000001, 31), 31);
        isBits("raw of 31", y, stream, "0000000000000000000000000000001");
    }

    private static void rawWithoutRoom(int stream) {
        LineCoder x = filledWith(stream, 2609);
        CHECK.refuses("32 with room for 31", STATE, () -> x.raw(stream, -1, 32));
        CHECK.same("bits when refused", x.count(stream, 0), 2609);
        CHECK.same("no bit when refused", x.bit(stream, 2609), NONE);
        CHECK.same("31 with room for 31", x.raw(stream, -1, 31), 2640);
        CHECK.refuses("1 with no room", STATE, () -> x.raw(stream, 0, 1));
        CHECK.refuses("32 with no room", STATE, () -> x.raw(stream, 0, 32));
        CHECK.same("none with no room", x.raw(stream, 0, 0), 2640);
        CHECK.same("the other STREAM has room", x.raw(1 - stream, 0, 32), 32);
        LineCoder y = filledWith(stream, 2639);
        CHECK.refuses("2 with room for 1", STATE, () -> y.raw(stream, 0, 2));
        CHECK.same("1 with room for 1", y.raw(stream, 0, 1), 2640);
        CHECK.same("lose one", y.lose(stream, 100, 1), 1);
        CHECK.same("1 with room again", y.raw(stream, 0, 1), 2640);
    }

    private static void rawOfTooManyWithoutRoom(int stream) {
        LineCoder x = filledWith(stream, 2640);
        CHECK.refuses("33 with no room", ARGUMENT, () -> x.raw(stream, 0, 33));
        CHECK.refuses("-1 with no room", ARGUMENT, () -> x.raw(stream, 0, -1));
        for (int no : NO_STREAMS) {
            CHECK.refuses("to STREAM " + no + " with no room", ARGUMENT, () -> x.raw(no, 0, 1));
        }
        Twins.areAlike(CHECK, "full and refused", x, filledWith(stream, 2640));
    }

    private static void rawToNoStream() {
        LineCoder x = new LineCoder();
        for (int stream : NO_STREAMS) {
            CHECK.refuses("raw to " + stream, ARGUMENT, () -> x.raw(stream, 1, 1));
            CHECK.refuses("raw of none to " + stream, ARGUMENT, () -> x.raw(stream, 1, 0));
            CHECK.refuses("raw of 33 to " + stream, ARGUMENT, () -> x.raw(stream, 1, 33));
        }
        Twins.areAlike(CHECK, "raw to no STREAM", x, new LineCoder());
    }

    private static void bendOfNoBit(int stream) {
        LineCoder x = new LineCoder();
        CHECK.refuses("bend of an empty STREAM", INDEX, () -> x.bend(stream, 0));
        x.raw(1 - stream, -1, 32);
        CHECK.refuses("bend of what the other has", INDEX, () -> x.bend(stream, 0));
        x.raw(stream, 0b101, 3);
        for (int k : new int[] {LEAST, -1, 3, 4, 2639, 2640, MOST}) {
            CHECK.refuses("bend of bit " + k, INDEX, () -> x.bend(stream, k));
        }
        isBits("bend, refused", x, stream, "101");
        // A bit that was lost is none.
        x.lose(stream, 1, 2);
        CHECK.refuses("bend of a lost bit", INDEX, () -> x.bend(stream, 1));
        LineCoder y = filledWith(stream, 2640);
        CHECK.refuses("bend behind a full STREAM", INDEX, () -> y.bend(stream, 2640));
    }

    private static void bendOfTheFirstAndLast(int stream) {
        LineCoder x = filledWith(stream, 2640);
        CHECK.same("bend of the first 1", x.bend(stream, 0), false);
        CHECK.same("the first bit", x.bit(stream, 0), 0);
        CHECK.same("the second bit", x.bit(stream, 1), 0);
        CHECK.same("bend of the last 0", x.bend(stream, 2639), true);
        CHECK.same("the last bit", x.bit(stream, 2639), 1);
        CHECK.same("the last but one", x.bit(stream, 2638), 1);
        CHECK.same("bend of the first again", x.bend(stream, 0), true);
        CHECK.same("the first bit again", x.bit(stream, 0), 1);
        CHECK.same("bits", x.count(stream, 0), 2640);
    }

    private static void bendInNoStream() {
        LineCoder x = new LineCoder();
        x.raw(0, 0, 5);
        x.raw(1, 0, 5);
        for (int stream : NO_STREAMS) {
            CHECK.refuses("bend in " + stream, ARGUMENT, () -> x.bend(stream, 0));
            CHECK.refuses("bend of no bit in " + stream, ARGUMENT, () -> x.bend(stream, -1));
            CHECK.refuses("bend behind all in " + stream, ARGUMENT, () -> x.bend(stream, 5));
        }
        isBits("bend in no STREAM", x, 0, "00000");
        isBits("bend in no STREAM", x, 1, "00000");
    }

    private static void bendBeforeThePlace() {
        LineCoder x = new LineCoder();
        x.send(444);
        x.receive();
        x.put(3L, false);
        x.take();
        CHECK.same("bend of a received bit", x.bend(0, 9), true);
        CHECK.same("bend of a taken bit", x.bend(1, 0), true);
        CHECK.same("the received bit", x.bit(0, 9), 1);
        CHECK.same("the taken bit", x.bit(1, 0), 1);
        CHECK.same("the taken word", x.word(), 3L);
    }

    private static void loseOfFewerThanNone(int stream) {
        LineCoder x = new LineCoder();
        CHECK.refuses("lose of -1 in an empty STREAM", ARGUMENT, () -> x.lose(stream, 0, -1));
        x.raw(stream, 0b1010, 4);
        for (int many : new int[] {LEAST, -2640, -1}) {
            CHECK.refuses("lose of " + many, ARGUMENT, () -> x.lose(stream, 0, many));
            CHECK.refuses("lose of " + many + " behind all", ARGUMENT, () -> x.lose(stream, 4, many));
            CHECK.refuses("lose of " + many + " before all", ARGUMENT, () -> x.lose(stream, -1, many));
        }
        CHECK.same("lose of none", x.lose(stream, 0, 0), 0);
        CHECK.same("lose of none behind all", x.lose(stream, 4, 0), 0);
        isBits("lose of none", x, stream, "1010");
    }

    /** An object that has gone on in both STREAMS, to bit 10 and to bit 66, with six bits behind. */
    private static LineCoder goneOn() {
        LineCoder x = new LineCoder();
        x.send(444);
        x.raw(0, 0b110100, 6);
        x.put(0L, false);
        x.raw(1, 0b110100, 6);
        x.receive();
        x.take();
        CHECK.same("PLACE in STREAM 0", x.count(0, 1), 10);
        CHECK.same("PLACE in STREAM 1", x.count(1, 1), 66);
        return x;
    }

    private static void loseBelowThePlace(int stream) {
        LineCoder x = goneOn();
        int place = x.count(stream, 1);
        for (int k : new int[] {LEAST, -1, 0, place - 1}) {
            CHECK.refuses("lose from " + k, ARGUMENT, () -> x.lose(stream, k, 1));
            CHECK.refuses("lose of none from " + k, ARGUMENT, () -> x.lose(stream, k, 0));
            CHECK.refuses("lose of all from " + k, ARGUMENT, () -> x.lose(stream, k, MOST));
        }
        CHECK.same("bits", x.count(stream, 0), place + 6);
        Twins.areAlike(CHECK, "lose, refused", x, goneOn());
        LineCoder y = goneOn();
        CHECK.same("lose from the PLACE on", y.lose(stream, place, 2), 2);
        CHECK.same("bits left", y.count(stream, 0), place + 4);
        CHECK.same("PLACE", y.count(stream, 1), place);
        CHECK.same("the bit at the PLACE", y.bit(stream, place), 0);
        CHECK.same("the next bit", y.bit(stream, place + 1), 1);
        LineCoder z = new LineCoder();
        z.raw(stream, 0b10, 2);
        CHECK.refuses("lose from -1 with PLACE 0", ARGUMENT, () -> z.lose(stream, -1, 1));
        CHECK.same("lose from 0 with PLACE 0", z.lose(stream, 0, 1), 1);
        isBits("lose from 0", z, stream, "0");
    }

    private static void loseBelowThePlaceBehindSlips() {
        LineCoder x = new LineCoder();
        x.raw(0, 0, 9);
        x.receive();
        x.receive();
        CHECK.same("PLACE behind two slips", x.count(0, 1), 2);
        CHECK.refuses("lose of what was slipped by", ARGUMENT, () -> x.lose(0, 1, 1));
        CHECK.same("lose from there on", x.lose(0, 2, 1), 1);
        // A mark that is found is not received yet: its bits can be lost.
        LineCoder y = new LineCoder();
        y.raw(0, 0b0011111, 7);
        y.receive();
        CHECK.same("lose of a mark that was found", y.lose(0, 0, 3), 3);
        CHECK.counts("lose of a mark", y, 0, 4, 0, 1, 0, 0, 0, 0);
    }

    private static void loseOfAsManyAsThereAre(int stream) {
        LineCoder x = new LineCoder();
        x.raw(stream, 0b110100, 6);
        CHECK.same("lose of three of three", x.lose(stream, 3, 3), 3);
        isBits("three of three", x, stream, "110");
        CHECK.same("lose of three of two", x.lose(stream, 1, 3), 2);
        isBits("three of two", x, stream, "1");
        x.raw(stream, 0b0110, 4);
        // k and many together are more than an int holds.
        CHECK.same("lose of most", x.lose(stream, 2, MOST), 3);
        isBits("most", x, stream, "10");
        CHECK.same("lose of all", x.lose(stream, 0, 2), 2);
        isBits("all", x, stream, "");
        x.raw(stream, 0b01, 2);
        isBits("more behind all", x, stream, "01");
        LineCoder y = filledWith(stream, 2640);
        CHECK.same("lose of one too many", y.lose(stream, 0, 2641), 2640);
        CHECK.same("none left", y.count(stream, 0), 0);
    }

    private static void loseBehindTheLast(int stream) {
        LineCoder x = new LineCoder();
        CHECK.same("lose in an empty STREAM", x.lose(stream, 0, 1), 0);
        CHECK.same("lose behind an empty STREAM", x.lose(stream, 1, MOST), 0);
        x.raw(stream, 0b101, 3);
        for (int k : new int[] {3, 4, 2639, 2640, MOST}) {
            CHECK.same("lose from " + k, x.lose(stream, k, 1), 0);
            CHECK.same("lose of most from " + k, x.lose(stream, k, MOST), 0);
        }
        isBits("none lost", x, stream, "101");
        CHECK.same("lose of the last", x.lose(stream, 2, 1), 1);
        isBits("the last is lost", x, stream, "10");
        LineCoder y = filledWith(stream, 2640);
        CHECK.same("lose behind a full STREAM", y.lose(stream, 2640, 1), 0);
        CHECK.same("lose of a full STREAM's last", y.lose(stream, 2639, 2), 1);
    }

    private static void loseInNoStream() {
        LineCoder x = goneOn();
        for (int stream : NO_STREAMS) {
            CHECK.refuses("lose in " + stream, ARGUMENT, () -> x.lose(stream, 70, 1));
            CHECK.refuses("lose of none in " + stream, ARGUMENT, () -> x.lose(stream, 70, 0));
            CHECK.refuses("lose behind all in " + stream, ARGUMENT, () -> x.lose(stream, MOST, 1));
        }
        Twins.areAlike(CHECK, "lose in no STREAM", x, goneOn());
    }

    private static void bitOfNone(int stream) {
        LineCoder x = new LineCoder();
        CHECK.same("bit of an empty STREAM", x.bit(stream, 0), NONE);
        x.raw(1 - stream, -1, 32);
        CHECK.same("bit that the other has", x.bit(stream, 0), NONE);
        x.raw(stream, 0b01, 2);
        CHECK.same("bit 0", x.bit(stream, 0), 0);
        CHECK.same("bit 1", x.bit(stream, 1), 1);
        for (int k : new int[] {LEAST, -1, 2, 3, 2639, 2640, MOST}) {
            CHECK.same("bit " + k, x.bit(stream, k), NONE);
        }
        x.lose(stream, 1, 1);
        CHECK.same("a lost bit", x.bit(stream, 1), NONE);
        x.clear();
        CHECK.same("a cleared bit", x.bit(stream, 0), NONE);
        LineCoder y = filledWith(stream, 2640);
        CHECK.same("the last of a full STREAM", y.bit(stream, 2639), 0);
        CHECK.same("behind a full STREAM", y.bit(stream, 2640), NONE);
    }

    private static void bitOfNoStream() {
        LineCoder x = new LineCoder();
        x.raw(0, -1, 32);
        x.raw(1, -1, 32);
        for (int stream : NO_STREAMS) {
            CHECK.refuses("bit of " + stream, ARGUMENT, () -> x.bit(stream, 0));
            CHECK.refuses("bit -1 of " + stream, ARGUMENT, () -> x.bit(stream, -1));
            CHECK.refuses("bit 32 of " + stream, ARGUMENT, () -> x.bit(stream, 32));
        }
    }

    private static void countOfNoneOfThoseTold(int stream) {
        LineCoder x = goneOn();
        for (int what : new int[] {LEAST, -9, -1, 9, 10, 16, 256, MOST}) {
            CHECK.refuses("count of " + what, ARGUMENT, () -> x.count(stream, what));
        }
        Twins.areAlike(CHECK, "count, refused", x, goneOn());
    }

    private static void countOfAnEmptyStream(int stream) {
        LineCoder x = new LineCoder();
        CHECK.counts("empty", x, stream, 0, 0, 0, 0, 0, 0, 0, 0, 0);
        x.raw(1 - stream, -1, 32);
        CHECK.counts("empty beside another", x, stream, 0, 0, 0, 0, 0, 0, 0, 0, 0);
        x.raw(stream, -1, 5);
        x.lose(stream, 0, 5);
        CHECK.counts("empty again", x, stream, 0, 0, 0, 0, 0, 0, 0, 0, 0);
        x.raw(stream, 1, 1);
        CHECK.counts("a single 1", x, stream, 1, 0, 0, 0, 0, 0, 0, 1, 1);
        x.bend(stream, 0);
        CHECK.counts("a single 0", x, stream, 1, 0, 0, 0, 0, 0, 0, -1, 1);
    }

    private static void countOfAFullStream(int stream) {
        LineCoder x = filledWith(stream, 2640);
        CHECK.counts("1 0 in turn", x, stream, 2640, 0, 0, 0, 0, 0, 0, 0, 1);
        LineCoder y = new LineCoder();
        for (int i = 0; i < 82; i++) {
            y.raw(stream, 0, 32);
        }
        y.raw(stream, 0, 16);
        CHECK.counts("all 0", y, stream, 2640, 0, 0, 0, 0, 0, 0, -2640, 2640);
        y.bend(stream, 0);
        CHECK.counts("all 0 but the first", y, stream, 2640, 0, 0, 0, 0, 0, 0, -2638, 2639);
        y.bend(stream, 2639);
        CHECK.counts("and the last", y, stream, 2640, 0, 0, 0, 0, 0, 0, -2636, 2638);
        // A run that begins anew at the last bit is no longer than before.
        y.bend(stream, 0);
        CHECK.counts("all 0 but the last", y, stream, 2640, 0, 0, 0, 0, 0, 0, -2638, 2639);
    }

    private static void countOfNoStream() {
        LineCoder x = new LineCoder();
        for (int stream : NO_STREAMS) {
            for (int what = -1; what <= 9; what++) {
                int w = what;
                CHECK.refuses("count(" + stream + ", " + w + ")", ARGUMENT, () -> x.count(stream, w));
            }
        }
    }

    private static void countOfWrongOnesInStreamOne() {
        LineCoder x = new LineCoder();
        x.raw(0, 0b0011111010, 10);
        x.raw(0, 0b0011111010, 10);
        x.receive();
        CHECK.same("a WRONG one", x.receive(), 444 + 512);
        for (int i = 0; i < 9; i++) {
            x.put(i, false);
        }
        x.bend(1, 66 * 8);
        for (int i = 0; i < 9; i++) {
            x.take();
        }
        CHECK.counts("STREAM 1 beside a WRONG one", x, 1, 594, 594, 1, 1, 0, 1, 0);
        CHECK.counts("STREAM 0 beside a BAD one", x, 0, 20, 20, 1, 1, 0, 0, 1);
    }
}
