/** Promise 1 (a new object) and promise 15 (clear): all is as at first. */
public final class StartTest {
    private static final Check CHECK = new Check("StartTest");

    public static void main(String[] args) {
        isAsAtFirst("new", new LineCoder());

        LineCoder used = new LineCoder();
        useAll(used);
        used.clear();
        isAsAtFirst("cleared", used);
        sendsAsAtFirst(used);

        LineCoder twice = new LineCoder();
        twice.clear();
        twice.clear();
        isAsAtFirst("cleared when new", twice);

        forgetsTheFirstTen();
        forgetsGoodWords();
        objectsAreApart();
        CHECK.end();
    }

    private static void isAsAtFirst(String when, LineCoder x) {
        CHECK.counts(when, x, 0, 0, 0, 0, 0, 0, 0, 0, 0, 0);
        CHECK.counts(when, x, 1, 0, 0, 0, 0, 0, 0, 0, 0, 0);
        CHECK.same(when + ": isPlus(true)", x.isPlus(true), false);
        CHECK.same(when + ": isPlus(false)", x.isPlus(false), false);
        CHECK.same(when + ": word", x.word(), 0);
        CHECK.same(when + ": receive", x.receive(), LineCoder.NONE);
        CHECK.same(when + ": take", x.take(), LineCoder.NONE);
        CHECK.same(when + ": bit(0, 0)", x.bit(0, 0), LineCoder.NONE);
        CHECK.same(when + ": bit(1, 0)", x.bit(1, 0), LineCoder.NONE);
    }

    private static void useAll(LineCoder x) {
        x.raw(0, 1, 1);
        x.send(444);
        x.raw(0, 0, 10);
        x.raw(0, 0b1010101011, 10);
        x.raw(0, 0b1010101011, 10);
        for (int i = 0; i < 5; i++) {
            x.receive();
        }
        x.raw(1, 3, 2);
        for (int i = 0; i < 9; i++) {
            x.put(0x123456789ABCDEFL, true);
        }
        x.raw(1, 0, 32);
        x.raw(1, -1, 32);
        x.raw(1, 0, 2);
        for (int i = 0; i < 12; i++) {
            x.take();
        }
        CHECK.same("used: isPlus(true)", x.isPlus(true), true);
        CHECK.same("used: isPlus(false)", x.isPlus(false), true);
        CHECK.counts("used", x, 0, 41, 41, 1, 2, 1, 1, 1);
        CHECK.counts("used", x, 1, 662, 662, 1, 1, 2, 1, 0);
    }

    private static void sendsAsAtFirst(LineCoder x) {
        LineCoder fresh = new LineCoder();
        x.put(77L, false);
        fresh.put(77L, false);
        for (int k = 0; k < 66; k++) {
            CHECK.same("cleared: bit " + k + " of a word", x.bit(1, k), fresh.bit(1, k));
        }
        CHECK.same("cleared: take", x.take(), 0);
        CHECK.same("cleared: word", x.word(), 77);
        CHECK.same("cleared: send", x.send(444), 250);
        CHECK.same("cleared: receive", x.receive(), 444);
    }

    private static void forgetsTheFirstTen() {
        LineCoder x = new LineCoder();
        x.raw(0, 0b0011111, 7);
        x.receive();
        x.clear();
        CHECK.same("cleared behind a mark: FOLLOWS", x.count(0, 2), 0);
        x.raw(0, 0b0101010101, 10);
        CHECK.same("cleared behind a mark: receive", x.receive(), LineCoder.SLIP);
    }

    private static void forgetsGoodWords() {
        LineCoder x = new LineCoder();
        for (int i = 0; i < 7; i++) {
            x.put(i, false);
            x.take();
        }
        CHECK.same("seven good: count(1, 3)", x.count(1, 3), 7);
        x.clear();
        x.put(0, false);
        CHECK.same("cleared behind seven good: take", x.take(), 0);
        CHECK.same("cleared behind seven good: FOLLOWS", x.count(1, 2), 0);
        CHECK.same("cleared behind seven good: count(1, 3)", x.count(1, 3), 1);
    }

    private static void objectsAreApart() {
        LineCoder one = new LineCoder();
        LineCoder other = new LineCoder();
        one.send(444);
        one.put(1, true);
        isAsAtFirst("beside another", other);
    }
}
