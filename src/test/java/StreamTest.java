/** Promises 9 (raw), 10 (bend), 11 (lose), 12 (bit) and 13 (count). */
public final class StreamTest {
    private static final Check CHECK = new Check("StreamTest");
    private static final int[] NO_STREAMS = {-1, 2, 3, Integer.MIN_VALUE, Integer.MAX_VALUE};

    public static void main(String[] args) {
        for (int stream = 0; stream < 2; stream++) {
            rawBits(stream);
            rawUntilFull(stream);
            bends(stream);
            loses(stream);
            counts(stream);
        }
        losesBehindThePlace();
        refusesNoStreams();
        CHECK.end();
    }

    private static void isBits(String when, LineCoder x, int stream, String due) {
        CHECK.same(when + ": bits", x.count(stream, 0), due.length());
        for (int k = 0; k < due.length(); k++) {
            CHECK.same(when + ": bit " + k, x.bit(stream, k), due.charAt(k) - '0');
        }
        CHECK.same(when + ": bit behind", x.bit(stream, due.length()), LineCoder.NONE);
        CHECK.same(when + ": bit before", x.bit(stream, -1), LineCoder.NONE);
        CHECK.same(when + ": least bit", x.bit(stream, Integer.MIN_VALUE), LineCoder.NONE);
        CHECK.same(when + ": most bit", x.bit(stream, Integer.MAX_VALUE), LineCoder.NONE);
    }

    private static void rawBits(int stream) {
        LineCoder x = new LineCoder();
        CHECK.same("raw of none", x.raw(stream, -1, 0), 0);
        isBits("none", x, stream, "");
        CHECK.same("raw of one", x.raw(stream, 6, 1), 1);
        CHECK.same("raw of three", x.raw(stream, 0b11110110, 3), 4);
        isBits("four", x, stream, "0110");
        CHECK.same("raw of 32", x.raw(stream, 0x80000001, 32), 36);
        isBits("36", x, stream, "0110" + "10000000000000000000000000000001");
        CHECK.same("raw of 31", x.raw(stream, 0xC0000000, 31), 67);
        CHECK.same("highest of 31", x.bit(stream, 36), 1);
        CHECK.same("the other stream", x.count(1 - stream, 0), 0);
        CHECK.same("the other stream's bit", x.bit(1 - stream, 0), LineCoder.NONE);
        for (int many : new int[] {-1, 33, 64, Integer.MIN_VALUE, Integer.MAX_VALUE}) {
            CHECK.refuses("raw of " + many, IllegalArgumentException.class,
                    () -> x.raw(stream, 0, many));
        }
        CHECK.same("bits, still", x.count(stream, 0), 67);
    }

    private static void rawUntilFull(int stream) {
        LineCoder x = new LineCoder();
        for (int i = 1; i <= 82; i++) {
            CHECK.same("raw " + i, x.raw(stream, -1, 32), 32 * i);
        }
        CHECK.refuses("17 bits too many", IllegalStateException.class, () -> x.raw(stream, 0, 17));
        CHECK.same("2624 still", x.count(stream, 0), 2624);
        CHECK.same("16 bits more", x.raw(stream, 0, 16), 2640);
        CHECK.same("none when full", x.raw(stream, 0, 0), 2640);
        CHECK.refuses("one when full", IllegalStateException.class, () -> x.raw(stream, 0, 1));
        CHECK.refuses("33 when full", IllegalArgumentException.class, () -> x.raw(stream, 0, 33));
        CHECK.same("sum", x.count(stream, 7), 2624 - 16);
        CHECK.same("run", x.count(stream, 8), 2624);
        CHECK.same("last bit", x.bit(stream, 2639), 0);
        CHECK.same("bend the last bit", x.bend(stream, 2639), true);
        CHECK.same("bit 2640", x.bit(stream, 2640), LineCoder.NONE);
        CHECK.refuses("bend bit 2640", IndexOutOfBoundsException.class, () -> x.bend(stream, 2640));
        CHECK.same("lose all", x.lose(stream, 0, Integer.MAX_VALUE), 2640);
        CHECK.same("none left", x.count(stream, 0), 0);
        CHECK.same("room again", x.raw(stream, 1, 1), 1);
    }

    private static void bends(int stream) {
        LineCoder x = new LineCoder();
        CHECK.refuses("bend of none", IndexOutOfBoundsException.class, () -> x.bend(stream, 0));
        x.raw(stream, 0b0110, 4);
        CHECK.same("bend a 0", x.bend(stream, 0), true);
        CHECK.same("bend a 1", x.bend(stream, 2), false);
        isBits("bent", x, stream, "1100");
        CHECK.same("bend it back", x.bend(stream, 2), true);
        isBits("bent back", x, stream, "1110");
        for (int k : new int[] {-1, 4, 5, 2640, Integer.MIN_VALUE, Integer.MAX_VALUE}) {
            CHECK.refuses("bend " + k, IndexOutOfBoundsException.class, () -> x.bend(stream, k));
        }
        isBits("as it was", x, stream, "1110");
    }

    private static void loses(int stream) {
        LineCoder x = new LineCoder();
        CHECK.same("of no bits", x.lose(stream, 0, 5), 0);
        x.raw(stream, 0b110100, 6);
        CHECK.same("none of them", x.lose(stream, 2, 0), 0);
        CHECK.same("behind the last one", x.lose(stream, 6, 1), 0);
        CHECK.same("far behind it", x.lose(stream, Integer.MAX_VALUE, Integer.MAX_VALUE), 0);
        isBits("none lost", x, stream, "110100");
        CHECK.same("two of them", x.lose(stream, 1, 2), 2);
        isBits("two lost", x, stream, "1100");
        CHECK.same("more than there are", x.lose(stream, 3, Integer.MAX_VALUE), 1);
        isBits("three lost", x, stream, "110");
        CHECK.refuses("fewer than none", IllegalArgumentException.class,
                () -> x.lose(stream, 0, -1));
        CHECK.refuses("fewer than none, behind", IllegalArgumentException.class,
                () -> x.lose(stream, 99, Integer.MIN_VALUE));
        CHECK.refuses("before the first", IllegalArgumentException.class,
                () -> x.lose(stream, -1, 1));
        CHECK.refuses("none before the first", IllegalArgumentException.class,
                () -> x.lose(stream, Integer.MIN_VALUE, 0));
        isBits("three still", x, stream, "110");
        x.raw(stream, 0b01, 2);
        isBits("more behind them", x, stream, "11001");
    }

    private static void losesBehindThePlace() {
        LineCoder x = new LineCoder();
        x.send(444);
        x.send(0);
        x.send(5);
        x.receive();
        CHECK.refuses("a bit before the PLACE", IllegalArgumentException.class,
                () -> x.lose(0, 9, 5));
        CHECK.refuses("none before the PLACE", IllegalArgumentException.class,
                () -> x.lose(0, 9, 0));
        CHECK.same("bits from the PLACE on", x.lose(0, 10, 10), 10);
        CHECK.same("the one behind them", x.receive(), 5);
        CHECK.counts("lost", x, 0, 20, 20, 1, 0, 0, 0, 0);
        CHECK.same("behind all", x.lose(0, 20, 1), 0);

        LineCoder y = new LineCoder();
        y.put(1, false);
        y.raw(1, 5, 3);
        y.take();
        CHECK.refuses("a bit before stream 1's PLACE", IllegalArgumentException.class,
                () -> y.lose(1, 65, 1));
        CHECK.same("from stream 1's PLACE on", y.lose(1, 66, 2), 2);
        CHECK.same("left", y.count(1, 0), 67);
        y.raw(0, 5, 3);
        CHECK.same("stream 0's PLACE is another", y.lose(0, 0, 1), 1);
    }

    private static void counts(int stream) {
        LineCoder x = new LineCoder();
        x.raw(stream, 1, 1);
        CHECK.same("sum of a 1", x.count(stream, 7), 1);
        CHECK.same("run of one bit", x.count(stream, 8), 1);
        x.raw(stream, 0b0001101, 7);
        CHECK.same("sum of 10001101", x.count(stream, 7), 0);
        CHECK.same("run of 10001101", x.count(stream, 8), 3);
        x.raw(stream, 0b1111, 4);
        CHECK.same("sum of 100011011111", x.count(stream, 7), 4);
        CHECK.same("run at the end", x.count(stream, 8), 5);
        x.bend(stream, 0);
        CHECK.same("sum of a bent one", x.count(stream, 7), 2);
        x.lose(stream, 7, 5);
        CHECK.same("sum of 0000110", x.count(stream, 7), -3);
        CHECK.same("run at the start", x.count(stream, 8), 4);
        for (int what : new int[] {-1, 9, 10, Integer.MIN_VALUE, Integer.MAX_VALUE}) {
            CHECK.refuses("count of " + what, IllegalArgumentException.class,
                    () -> x.count(stream, what));
        }
    }

    private static void refusesNoStreams() {
        LineCoder x = new LineCoder();
        for (int stream : NO_STREAMS) {
            Class<IllegalArgumentException> due = IllegalArgumentException.class;
            CHECK.refuses("raw to " + stream, due, () -> x.raw(stream, 0, 1));
            CHECK.refuses("bend in " + stream, due, () -> x.bend(stream, 0));
            CHECK.refuses("lose in " + stream, due, () -> x.lose(stream, 0, 1));
            CHECK.refuses("bit of " + stream, due, () -> x.bit(stream, 0));
            CHECK.refuses("count of " + stream, due, () -> x.count(stream, 0));
        }
        CHECK.counts("behind no streams", x, 0, 0, 0, 0, 0, 0, 0, 0, 0, 0);
        CHECK.counts("behind no streams", x, 1, 0, 0, 0, 0, 0, 0, 0, 0, 0);
    }
}
