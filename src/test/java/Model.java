import java.util.ArrayList;
import java.util.List;

/** The document told a second time, with texts of bits and lists, for the random runs. */
final class Model {
    static final String ILLEGAL_ARGUMENT = "IllegalArgumentException";
    static final String ILLEGAL_STATE = "IllegalStateException";
    static final String OUT_OF_BOUNDS = "IndexOutOfBoundsException";

    private static final TenTable TABLE = new TenTable();

    private final StringBuilder[] bits = {new StringBuilder(), new StringBuilder()};
    private final int[] place = new int[2];
    private final boolean[] follows = new boolean[2];
    private final int[] slips = new int[2];
    private final int[] bad = new int[2];
    private boolean senderPlus;
    private boolean receiverPlus;
    private boolean first;
    private int marks;
    private int evenRow;
    private int wrong;
    private final List<Integer> sent = new ArrayList<>();
    private final List<Integer> received = new ArrayList<>();
    private final List<Boolean> heads = new ArrayList<>();
    private int goodRow;
    private long last;

    /** A call's answer as a text, or the name of what it throws. */
    String answer(String call, int a, int b, int c, long word) {
        switch (call) {
            case "code": return TABLE.ten(a, b == 1) == null ? ILLEGAL_ARGUMENT
                    : "" + Integer.parseInt(TABLE.ten(a, b == 1), 2);
            case "symbol": return a < 0 || a > 1023 ? ILLEGAL_ARGUMENT
                    : "" + TABLE.symbolOf(ten(a));
            case "send": return send(a);
            case "receive": return "" + receive();
            case "put": return put(word, a == 1);
            case "take": return "" + take();
            case "word": return "" + last;
            case "raw": return raw(a, b, c);
            case "bend": return bend(a, b);
            case "lose": return lose(a, b, c);
            case "bit": return noStream(a) ? ILLEGAL_ARGUMENT
                    : isBit(a, b) ? "" + bits[a].charAt(b) : "-1";
            case "count": return noStream(a) || b < 0 || b > 8 ? ILLEGAL_ARGUMENT
                    : "" + count(a, b);
            case "isPlus": return (a == 1 ? senderPlus : receiverPlus) ? "1" : "0";
            default: throw new AssertionError(call);
        }
    }

    private static boolean noStream(int stream) {
        return stream != 0 && stream != 1;
    }

    private boolean isBit(int stream, int k) {
        return k >= 0 && k < bits[stream].length();
    }

    private static String ten(int code) {
        return Integer.toBinaryString(1024 + code).substring(1);
    }

    private String send(int symbol) {
        String ten = TABLE.ten(symbol, senderPlus);
        if (ten == null) {
            return ILLEGAL_ARGUMENT;
        }
        if (bits[0].length() + 10 > 2640) {
            return ILLEGAL_STATE;
        }
        bits[0].append(ten);
        senderPlus = TenTable.signBehind(ten, senderPlus);
        return "" + Integer.parseInt(ten, 2);
    }

    private int receive() {
        String left = bits[0].substring(place[0]);
        if (!follows[0]) {
            if (left.length() < 7) {
                return -1;
            }
            if (!left.startsWith("0011111") && !left.startsWith("1100000")) {
                place[0]++;
                slips[0]++;
                return -3;
            }
            follows[0] = true;
            first = true;
        }
        if (left.length() < 10) {
            return -1;
        }
        place[0] += 10;
        return receiveTen(left.substring(0, 10));
    }

    private int receiveTen(String ten) {
        int symbol = TABLE.symbolOf(ten);
        boolean isWrong = symbol >= 0 && !first && !ten.equals(TABLE.ten(symbol, receiverPlus));
        if (symbol >= 0 && first && !ten.equals(TABLE.ten(symbol, receiverPlus))) {
            receiverPlus = !receiverPlus;
        }
        first = false;
        receiverPlus = TenTable.signBehind(ten, receiverPlus);
        if (symbol >= 0 && !isWrong) {
            evenRow++;
            if (evenRow % 4 == 0 && marks > 0) {
                marks--;
            }
            return symbol;
        }
        evenRow = 0;
        bad[0] += isWrong ? 0 : 1;
        wrong += isWrong ? 1 : 0;
        marks++;
        if (marks == 4) {
            marks = 0;
            follows[0] = false;
        }
        return isWrong ? symbol + 512 : -2;
    }

    private static int stirring(List<Integer> before) {
        int n = before.size();
        int a = n < 39 ? 1 : before.get(n - 39);
        int b = n < 58 ? 1 : before.get(n - 58);
        return a == b ? 0 : 1;
    }

    private String put(long word, boolean control) {
        if (bits[1].length() + 66 > 2640) {
            return ILLEGAL_STATE;
        }
        bits[1].append(control ? "10" : "01");
        for (int i = 0; i < 64; i++) {
            int stirred = (int) (word >> i & 1) ^ stirring(sent);
            sent.add(stirred);
            bits[1].append(stirred);
        }
        return "" + bits[1].length();
    }

    private int take() {
        String left = bits[1].substring(place[1]);
        if (left.length() < 66) {
            return -1;
        }
        boolean good = left.charAt(0) != left.charAt(1);
        if (!good && !follows[1]) {
            goodRow = 0;
            place[1]++;
            slips[1]++;
            return -3;
        }
        place[1] += 66;
        last = 0;
        for (int i = 0; i < 64; i++) {
            int bit = left.charAt(2 + i) - '0';
            last += (long) (bit ^ stirring(received)) << i;
            received.add(bit);
        }
        if (!follows[1]) {
            goodRow++;
            if (goodRow == 8) {
                follows[1] = true;
                heads.clear();
            }
        } else {
            heads.add(good);
            bad[1] += good ? 0 : 1;
            if (notGoodOfLast16() == 4) {
                follows[1] = false;
                goodRow = 0;
            }
        }
        return good ? left.charAt(0) - '0' : -2;
    }

    private int notGoodOfLast16() {
        int sum = 0;
        for (int i = Math.max(0, heads.size() - 16); i < heads.size(); i++) {
            sum += heads.get(i) ? 0 : 1;
        }
        return sum;
    }

    private String raw(int stream, int number, int many) {
        if (noStream(stream) || many < 0 || many > 32) {
            return ILLEGAL_ARGUMENT;
        }
        if (bits[stream].length() + many > 2640) {
            return ILLEGAL_STATE;
        }
        String all = Long.toBinaryString(1L << 32 | number & 0xFFFFFFFFL).substring(1);
        bits[stream].append(all.substring(32 - many));
        return "" + bits[stream].length();
    }

    private String bend(int stream, int k) {
        if (noStream(stream)) {
            return ILLEGAL_ARGUMENT;
        }
        if (!isBit(stream, k)) {
            return OUT_OF_BOUNDS;
        }
        bits[stream].setCharAt(k, bits[stream].charAt(k) == '0' ? '1' : '0');
        return "" + bits[stream].charAt(k);
    }

    private String lose(int stream, int k, int many) {
        if (noStream(stream) || many < 0 || k < place[stream]) {
            return ILLEGAL_ARGUMENT;
        }
        int before = bits[stream].length();
        if (k < before) {
            bits[stream].delete(k, (int) Math.min(before, (long) k + many));
        }
        return "" + (before - bits[stream].length());
    }

    private int count(int stream, int what) {
        String all = bits[stream].toString();
        switch (what) {
            case 0: return all.length();
            case 1: return place[stream];
            case 2: return follows[stream] ? 1 : 0;
            case 3: return stream == 0 ? marks : follows[1] ? notGoodOfLast16() : goodRow;
            case 4: return slips[stream];
            case 5: return bad[stream];
            case 6: return stream == 0 ? wrong : 0;
            case 7: return 2 * all.replace("0", "").length() - all.length();
            default: return longestRun(all);
        }
    }

    private static int longestRun(String all) {
        int longest = 0;
        while (all.contains("0".repeat(longest + 1)) || all.contains("1".repeat(longest + 1))) {
            longest++;
        }
        return longest;
    }
}
