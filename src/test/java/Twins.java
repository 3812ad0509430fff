import java.util.function.Function;

/**
 * Two objects that are due to be alike: both are asked the same, first what can be seen of them,
 * then calls that bring to light what can not. It takes some 170 calls of an object's 512.
 */
final class Twins {
    private static final int SEEN_BITS = 20;

    private final Check check;
    private final String when;
    private final LineCoder one;
    private final LineCoder other;

    private Twins(Check check, String when, LineCoder one, LineCoder other) {
        this.check = check;
        this.when = when;
        this.one = one;
        this.other = other;
    }

    static void areAlike(Check check, String when, LineCoder one, LineCoder other) {
        Twins twins = new Twins(check, when, one, other);
        twins.look();
        twins.receiveWhatIsLeft();
        twins.takeWhatIsLeft();
        twins.sendAndReceive();
        twins.putAndTake();
    }

    private void ask(String call, Function<LineCoder, Object> asked) {
        String got = answer(one, asked);
        String due = answer(other, asked);
        check.same(when + ": " + call + " (" + got + ", due is " + due + ") is as due",
                got.equals(due), true);
    }

    private static String answer(LineCoder x, Function<LineCoder, Object> asked) {
        try {
            return String.valueOf(asked.apply(x));
        } catch (RuntimeException e) {
            return e.getClass().getSimpleName();
        }
    }

    private void look() {
        for (int stream = 0; stream < 2; stream++) {
            int s = stream;
            for (int what = 0; what <= 8; what++) {
                int w = what;
                ask("count(" + s + ", " + w + ")", x -> x.count(s, w));
            }
            int size = other.count(s, 0);
            for (int k = Math.max(0, size - SEEN_BITS); k < size; k++) {
                int at = k;
                ask("bit(" + s + ", " + at + ")", x -> x.bit(s, at));
            }
        }
        ask("isPlus(true)", x -> x.isPlus(true));
        ask("isPlus(false)", x -> x.isPlus(false));
        ask("word()", LineCoder::word);
    }

    private void receiveWhatIsLeft() {
        for (int i = 0; i < 15; i++) {
            ask("receive() of what is left", LineCoder::receive);
        }
        ask("MARKS behind what is left", x -> x.count(0, 3));
        ask("lose(0)", x -> x.lose(0, x.count(0, 1), 2640));
    }

    private void takeWhatIsLeft() {
        for (int i = 0; i < 3; i++) {
            ask("take() of what is left", LineCoder::take);
            ask("word() of what is left", LineCoder::word);
        }
        ask("GOOD or bad ones behind what is left", x -> x.count(1, 3));
        ask("lose(1)", x -> x.lose(1, x.count(1, 1), 2640));
    }

    // Tens that are right with MINUS, tens that are right with PLUS, and tens that are none.
    private void sendAndReceive() {
        int[] tens = {0b0011111010, 0b1010101011, 0b1010101011, 0, 0b0101010101, 0b0101010101};
        for (int ten : tens) {
            ask("raw ten", x -> x.raw(0, ten, 10));
            ask("receive()", LineCoder::receive);
            ask("MARKS", x -> x.count(0, 3));
        }
        for (int symbol : new int[] {444, 32, 74, 74}) {
            ask("send(" + symbol + ")", x -> x.send(symbol));
            ask("receive() of it", LineCoder::receive);
            ask("MARKS behind it", x -> x.count(0, 3));
        }
        ask("isPlus(true) in the end", x -> x.isPlus(true));
        ask("isPlus(false) in the end", x -> x.isPlus(false));
        ask("PLACE in the end", x -> x.count(0, 1));
    }

    private void putAndTake() {
        for (int i = 0; i < 9; i++) {
            long word = 0x0F1E2D3C4B5A6978L * (i + 1);
            boolean control = i % 2 == 0;
            ask("put", x -> x.put(word, control));
            ask("take()", LineCoder::take);
            ask("word()", LineCoder::word);
            ask("FOLLOWS", x -> x.count(1, 2));
            ask("GOOD or bad ones", x -> x.count(1, 3));
        }
        ask("all bits of STREAM 1", x -> x.count(1, 7));
    }
}
