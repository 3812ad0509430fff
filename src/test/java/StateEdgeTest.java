import java.util.LinkedHashMap;
import java.util.Map;
import java.util.function.Supplier;

/**
 * Promises 1 and 15, and what is said of all calls: in each of many states, clear makes all as at
 * first, what throws changes nothing, and neither does a call that only tells something.
 */
public final class StateEdgeTest {
    private static final Check CHECK = new Check("StateEdgeTest");
    private static final Class<IllegalArgumentException> ARGUMENT = IllegalArgumentException.class;
    private static final Class<IllegalStateException> STATE = IllegalStateException.class;
    private static final Class<IndexOutOfBoundsException> INDEX = IndexOutOfBoundsException.class;

    private static final int SIGN_MINUS = 0b0011111010;
    private static final int SIGN_PLUS = 0b1100000101;
    private static final int EVEN_TEN = 0b0101010101;
    private static final int NO_TEN = 0;

    public static void main(String[] args) {
        newObject();
        Map<String, Supplier<LineCoder>> states = states();
        states.forEach(StateEdgeTest::clearMakesAllAsAtFirst);
        states.forEach(StateEdgeTest::whatThrowsChangesNothing);
        states.forEach(StateEdgeTest::whatTellsChangesNothing);
        fullStreamsRefuse();
        firstExceptionsWin();
        CHECK.end();
    }

    private static void newObject() {
        LineCoder x = new LineCoder();
        CHECK.counts("new", x, 0, 0, 0, 0, 0, 0, 0, 0, 0, 0);
        CHECK.counts("new", x, 1, 0, 0, 0, 0, 0, 0, 0, 0, 0);
        CHECK.same("new: isPlus(true)", x.isPlus(true), false);
        CHECK.same("new: isPlus(false)", x.isPlus(false), false);
        CHECK.same("new: word()", x.word(), 0L);
        CHECK.same("new: receive()", x.receive(), LineCoder.NONE);
        CHECK.same("new: take()", x.take(), LineCoder.NONE);
        x.raw(0, EVEN_TEN, 10);
        CHECK.same("new: in HUNT for tens", x.receive(), LineCoder.SLIP);
        x.raw(1, 0, 32);
        x.raw(1, 0, 32);
        x.raw(1, 0, 2);
        CHECK.same("new: in HUNT for words", x.take(), LineCoder.SLIP);
    }

    private static Map<String, Supplier<LineCoder>> states() {
        Map<String, Supplier<LineCoder>> states = new LinkedHashMap<>();
        states.put("new", LineCoder::new);
        states.put("bits in HUNT", StateEdgeTest::bitsInHunt);
        states.put("a mark found", StateEdgeTest::aMarkFound);
        states.put("the sender's sign PLUS", StateEdgeTest::senderPlus);
        states.put("the receiver's sign PLUS", StateEdgeTest::receiverPlus);
        states.put("MARKS and a row of three", StateEdgeTest::marksAndARow);
        states.put("in HUNT behind four MARKS", StateEdgeTest::behindFourMarks);
        states.put("a word sent", StateEdgeTest::aWordSent);
        states.put("a word taken", StateEdgeTest::aWordTaken);
        states.put("seven GOOD words", () -> goodWords(7));
        states.put("FOLLOWS words", () -> goodWords(8));
        states.put("three bad words", () -> badWords(3));
        states.put("in HUNT behind four bad words", () -> badWords(4));
        states.put("full of ones", () -> full(-1));
        states.put("full of zeros", () -> full(0));
        return states;
    }

    private static LineCoder bitsInHunt() {
        LineCoder x = new LineCoder();
        x.raw(0, 0b101001111101, 12);
        x.receive();
        x.raw(1, 0b110, 3);
        x.put(-77L, false);
        x.take();
        CHECK.same("bits in HUNT: slips", x.count(0, 4) + x.count(1, 4), 2);
        return x;
    }

    private static LineCoder aMarkFound() {
        LineCoder x = new LineCoder();
        x.raw(0, SIGN_PLUS >> 1, 9);
        x.receive();
        CHECK.same("a mark found: FOLLOWS", x.count(0, 2), 1);
        return x;
    }

    private static LineCoder senderPlus() {
        LineCoder x = new LineCoder();
        x.send(444);
        CHECK.same("sender PLUS", x.isPlus(true), true);
        return x;
    }

    private static LineCoder receiverPlus() {
        LineCoder x = new LineCoder();
        x.raw(0, SIGN_MINUS, 10);
        x.receive();
        x.raw(0, SIGN_PLUS, 10);
        CHECK.same("receiver PLUS", x.isPlus(false), true);
        return x;
    }

    private static void receive(LineCoder x, int ten) {
        x.raw(0, ten, 10);
        x.receive();
    }

    private static LineCoder marksAndARow() {
        LineCoder x = new LineCoder();
        receive(x, SIGN_PLUS);
        receive(x, SIGN_PLUS);
        receive(x, NO_TEN);
        receive(x, EVEN_TEN);
        receive(x, EVEN_TEN);
        receive(x, EVEN_TEN);
        x.raw(0, EVEN_TEN, 10);
        CHECK.counts("MARKS and a row", x, 0, 70, 60, 1, 2, 0, 1, 1);
        return x;
    }

    private static LineCoder behindFourMarks() {
        LineCoder x = new LineCoder();
        receive(x, SIGN_MINUS);
        for (int i = 0; i < 4; i++) {
            receive(x, 0b1111111111);
        }
        receive(x, EVEN_TEN);
        CHECK.counts("four MARKS", x, 0, 60, 51, 0, 0, 1, 4, 0);
        return x;
    }

    private static LineCoder aWordSent() {
        LineCoder x = new LineCoder();
        x.put(0x0123456789ABCDEFL, true);
        return x;
    }

    private static LineCoder aWordTaken() {
        LineCoder x = aWordSent();
        x.take();
        CHECK.same("a word taken", x.word(), 0x0123456789ABCDEFL);
        return x;
    }

    private static LineCoder goodWords(int many) {
        LineCoder x = new LineCoder();
        for (int i = 0; i < many; i++) {
            x.put(-i, i % 3 == 0);
            x.take();
        }
        CHECK.same("FOLLOWS words", x.count(1, 2), many < 8 ? 0 : 1);
        return x;
    }

    private static LineCoder badWords(int many) {
        LineCoder x = goodWords(8);
        for (int i = 0; i < many; i++) {
            x.put(i, true);
            x.bend(1, x.count(1, 1));
            x.take();
        }
        x.put(1L, true);
        CHECK.same("bad words", x.count(1, 5), many);
        return x;
    }

    private static LineCoder full(int bits) {
        LineCoder x = new LineCoder();
        for (int i = 0; i < 83; i++) {
            x.raw(0, bits, i < 82 ? 32 : 16);
            x.raw(1, bits, i < 82 ? 32 : 16);
        }
        CHECK.same("full", x.count(0, 0) + x.count(1, 0), 2 * 2640);
        return x;
    }

    private static void clearMakesAllAsAtFirst(String name, Supplier<LineCoder> state) {
        LineCoder x = state.get();
        x.clear();
        Twins.areAlike(CHECK, name + ", cleared", x, new LineCoder());
    }

    private static void whatThrowsChangesNothing(String name, Supplier<LineCoder> state) {
        LineCoder x = state.get();
        refuse(name, x);
        Twins.areAlike(CHECK, name + ", refused", x, state.get());
    }

    private static void refuse(String name, LineCoder x) {
        for (int no : new int[] {-1, 256, 512}) {
            CHECK.refuses(name + ": code(" + no + ", true)", ARGUMENT, () -> x.code(no, true));
            CHECK.refuses(name + ": send(" + no + ")", ARGUMENT, () -> x.send(no));
        }
        for (int no : new int[] {-1, 1024}) {
            CHECK.refuses(name + ": symbol(" + no + ")", ARGUMENT, () -> x.symbol(no));
        }
        for (int no : new int[] {-1, 2}) {
            CHECK.refuses(name + ": raw to " + no, ARGUMENT, () -> x.raw(no, 5, 5));
            CHECK.refuses(name + ": bend in " + no, ARGUMENT, () -> x.bend(no, 0));
            CHECK.refuses(name + ": lose in " + no, ARGUMENT, () -> x.lose(no, 2000, 1));
            CHECK.refuses(name + ": bit of " + no, ARGUMENT, () -> x.bit(no, 0));
            CHECK.refuses(name + ": count of " + no, ARGUMENT, () -> x.count(no, 0));
        }
        for (int stream = 0; stream < 2; stream++) {
            refuseIn(name, x, stream);
        }
    }

    private static void refuseIn(String name, LineCoder x, int stream) {
        int size = x.count(stream, 0);
        int place = x.count(stream, 1);
        CHECK.refuses(name + ": raw of 33", ARGUMENT, () -> x.raw(stream, 5, 33));
        CHECK.refuses(name + ": raw of -1", ARGUMENT, () -> x.raw(stream, 5, -1));
        CHECK.refuses(name + ": bend of -1", INDEX, () -> x.bend(stream, -1));
        CHECK.refuses(name + ": bend of " + size, INDEX, () -> x.bend(stream, size));
        CHECK.refuses(name + ": lose of -1", ARGUMENT, () -> x.lose(stream, place, -1));
        CHECK.refuses(name + ": lose below", ARGUMENT, () -> x.lose(stream, place - 1, 3));
        CHECK.refuses(name + ": count of -1", ARGUMENT, () -> x.count(stream, -1));
        CHECK.refuses(name + ": count of 9", ARGUMENT, () -> x.count(stream, 9));
    }

    private static void whatTellsChangesNothing(String name, Supplier<LineCoder> state) {
        LineCoder x = state.get();
        x.code(444, false);
        x.code(21, true);
        x.symbol(SIGN_MINUS);
        x.symbol(NO_TEN);
        x.word();
        x.isPlus(true);
        x.isPlus(false);
        for (int stream = 0; stream < 2; stream++) {
            for (int what = 0; what <= 8; what++) {
                x.count(stream, what);
            }
            x.bit(stream, x.count(stream, 1));
            x.bit(stream, -1);
            x.raw(stream, -1, 0);
            x.lose(stream, x.count(stream, 0), 5);
            x.lose(stream, x.count(stream, 1), 0);
        }
        Twins.areAlike(CHECK, name + ", asked", x, state.get());
    }

    private static void fullStreamsRefuse() {
        LineCoder x = full(0);
        CHECK.refuses("full: send(0)", STATE, () -> x.send(0));
        CHECK.refuses("full: put", STATE, () -> x.put(1L, true));
        CHECK.refuses("full: raw to 0", STATE, () -> x.raw(0, -1, 1));
        CHECK.refuses("full: raw to 1", STATE, () -> x.raw(1, -1, 32));
        Twins.areAlike(CHECK, "full, refused", x, full(0));
    }

    private static void firstExceptionsWin() {
        LineCoder x = full(-1);
        CHECK.refuses("send of no SYMBOL, no room", ARGUMENT, () -> x.send(256));
        CHECK.refuses("raw of 33, no room", ARGUMENT, () -> x.raw(0, 0, 33));
        CHECK.refuses("raw of -1, no room", ARGUMENT, () -> x.raw(1, 0, -1));
        CHECK.refuses("raw to 2, no room", ARGUMENT, () -> x.raw(2, 0, 32));
        CHECK.refuses("bend of no bit in no STREAM", ARGUMENT, () -> x.bend(2, -1));
        CHECK.refuses("bend behind all in no STREAM", ARGUMENT, () -> x.bend(-1, 2640));
    }
}
