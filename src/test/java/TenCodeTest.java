import java.util.HashMap;
import java.util.Map;

/** Promise 2 (code) and promise 3 (symbol). */
public final class TenCodeTest {
    private static final Check CHECK = new Check("TenCodeTest");
    private static final TenTable TABLE = new TenTable();

    public static void main(String[] args) {
        writtenTens();
        everyCode();
        everySymbol();
        wrongNumbers();
        changesNothing();
        CHECK.end();
    }

    private static void writtenTens() {
        LineCoder x = new LineCoder();
        CHECK.same("code(0, false)", x.code(0, false), 0b1001110100);
        CHECK.same("code(0, true)", x.code(0, true), 0b0110001011);
        CHECK.same("code(7, false)", x.code(7, false), 0b1110001011);
        CHECK.same("code(7, true)", x.code(7, true), 0b0001110100);
        CHECK.same("code(103, false)", x.code(103, false), 0b1110001100);
        CHECK.same("code(103, true)", x.code(103, true), 0b0001110011);
        CHECK.same("code(255, false)", x.code(255, false), 0b1010110001);
        CHECK.same("code(255, true)", x.code(255, true), 0b0101001110);
        CHECK.same("code(284, false)", x.code(284, false), 0b0011110100);
        CHECK.same("code(444, true)", x.code(444, true), 0b1100000101);
        CHECK.same("code(510, true)", x.code(510, true), 0b1000010111);
    }

    private static void everyCode() {
        int seen = 0;
        LineCoder x = new LineCoder();
        for (int symbol = 0; symbol < 512; symbol++) {
            String ten = TABLE.ten(symbol, false);
            if (ten != null) {
                seen++;
                CHECK.same("code(" + symbol + ", false)", x.code(symbol, false), number(ten));
                String withPlus = TABLE.ten(symbol, true);
                CHECK.same("code(" + symbol + ", true)", x.code(symbol, true), number(withPlus));
            } else {
                refusesCode(x, symbol);
            }
            if (symbol % 100 == 99) {
                x = new LineCoder();
            }
        }
        CHECK.same("symbols there are", seen, 268);
    }

    private static void everySymbol() {
        Map<Integer, Integer> due = new HashMap<>();
        TABLE.minus.forEach((symbol, ten) -> due.put(number(ten), symbol));
        TABLE.plus.forEach((symbol, ten) -> {
            Integer before = due.put(number(ten), symbol);
            CHECK.same("another symbol's " + ten, before == null || before.equals(symbol), true);
        });
        LineCoder x = new LineCoder();
        for (int code = 0; code < 1024; code++) {
            int symbol = due.getOrDefault(code, LineCoder.NONE);
            CHECK.same("symbol(" + code + ")", x.symbol(code), symbol);
            if (code % 500 == 499) {
                x = new LineCoder();
            }
        }
    }

    private static void wrongNumbers() {
        LineCoder x = new LineCoder();
        for (int symbol : new int[] {-1, -256, 512, 700, 1024, Integer.MIN_VALUE, Integer.MAX_VALUE}) {
            refusesCode(x, symbol);
        }
        for (int code : new int[] {-1, 1024, 1025, -1024, Integer.MIN_VALUE, Integer.MAX_VALUE}) {
            CHECK.refuses("symbol(" + code + ")", IllegalArgumentException.class,
                    () -> x.symbol(code));
        }
    }

    private static void changesNothing() {
        LineCoder x = new LineCoder();
        x.code(0, false);
        x.code(284, true);
        x.symbol(250);
        CHECK.counts("behind code and symbol", x, 0, 0, 0, 0, 0, 0, 0, 0, 0, 0);
        CHECK.same("behind code: isPlus(true)", x.isPlus(true), false);
        CHECK.same("behind symbol: isPlus(false)", x.isPlus(false), false);
    }

    private static void refusesCode(LineCoder x, int symbol) {
        CHECK.refuses("code(" + symbol + ", false)", IllegalArgumentException.class,
                () -> x.code(symbol, false));
        CHECK.refuses("code(" + symbol + ", true)", IllegalArgumentException.class,
                () -> x.code(symbol, true));
    }

    private static int number(String bits) {
        return Integer.parseInt(bits, 2);
    }
}
