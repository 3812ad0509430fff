import java.util.HashMap;
import java.util.Map;

/**
 * The code of tens, told a second time and in another way than the program does: both forms of
 * each six and four written out, the signs' tens whole, and the sign behind bits by their sums.
 */
final class TenTable {
    private static final String[] SIX_MINUS = {
        "100111", "011101", "101101", "110001", "110101", "101001", "011001", "111000",
        "111001", "100101", "010101", "110100", "001101", "101100", "011100", "010111",
        "011011", "100011", "010011", "110010", "001011", "101010", "011010", "111010",
        "110011", "100110", "010110", "110110", "001110", "101110", "011110", "101011"
    };
    private static final String[] SIX_PLUS = {
        "011000", "100010", "010010", "110001", "001010", "101001", "011001", "000111",
        "000110", "100101", "010101", "110100", "001101", "101100", "011100", "101000",
        "100100", "100011", "010011", "110010", "001011", "101010", "011010", "000101",
        "001100", "100110", "010110", "001001", "001110", "010001", "100001", "010100"
    };
    private static final String[] FOUR_MINUS = {
        "1011", "1001", "0101", "1100", "1101", "1010", "0110", "1110"
    };
    private static final String[] FOUR_PLUS = {
        "0100", "1001", "0101", "0011", "0010", "1010", "0110", "0001"
    };
    private static final String[] SIGNS = {
        "28.0 0011110100 1100001011", "28.1 0011111001 1100000110", "28.2 0011110101 1100001010",
        "28.3 0011110011 1100001100", "28.4 0011110010 1100001101", "28.5 0011111010 1100000101",
        "28.6 0011110110 1100001001", "28.7 0011111000 1100000111", "23.7 1110101000 0001010111",
        "27.7 1101101000 0010010111", "29.7 1011101000 0100010111", "30.7 0111101000 1000010111"
    };

    /** The tens of each symbol, with MINUS and with PLUS. */
    final Map<Integer, String> minus = new HashMap<>();
    final Map<Integer, String> plus = new HashMap<>();
    private final Map<String, Integer> symbols = new HashMap<>();

    TenTable() {
        for (int symbol = 0; symbol < 256; symbol++) {
            minus.put(symbol, tenOfByte(symbol, false));
            plus.put(symbol, tenOfByte(symbol, true));
        }
        for (String row : SIGNS) {
            String[] parts = row.split("[ .]");
            int symbol = 256 + Integer.parseInt(parts[0]) + 32 * Integer.parseInt(parts[1]);
            minus.put(symbol, parts[2]);
            plus.put(symbol, parts[3]);
        }
        minus.forEach((symbol, ten) -> symbols.put(ten, symbol));
        plus.forEach((symbol, ten) -> symbols.put(ten, symbol));
    }

    String ten(int symbol, boolean withPlus) {
        return (withPlus ? plus : minus).get(symbol);
    }

    int symbolOf(String ten) {
        return symbols.getOrDefault(ten, -1);
    }

    static boolean signBehind(String ten, boolean sign) {
        return signBehindPart(ten.substring(6), signBehindPart(ten.substring(0, 6), sign));
    }

    private static boolean signBehindPart(String bits, boolean sign) {
        int sum = 0;
        for (char c : bits.toCharArray()) {
            sum += c == '1' ? 1 : -1;
        }
        if (sum != 0) {
            return sum > 0;
        }
        if (bits.equals("000111") || bits.equals("0011")) {
            return true;
        }
        return !bits.equals("111000") && !bits.equals("1100") && sign;
    }

    private static String tenOfByte(int symbol, boolean withPlus) {
        int x = symbol % 32;
        int y = symbol / 32;
        String six = (withPlus ? SIX_PLUS : SIX_MINUS)[x];
        boolean sign = signBehindPart(six, withPlus);
        if (y == 7 && !sign && (x == 17 || x == 18 || x == 20)) {
            return six + "0111";
        }
        if (y == 7 && sign && (x == 11 || x == 13 || x == 14)) {
            return six + "1000";
        }
        return six + (sign ? FOUR_PLUS : FOUR_MINUS)[y];
    }
}
