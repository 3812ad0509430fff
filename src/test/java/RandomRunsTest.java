import java.util.Random;

/** Runs of calls, the same ones each time, on an object and on the model, for all promises. */
public final class RandomRunsTest {
    private static final int RUNS = 600;
    private static final int CALLS = 512;
    private static final String[] NAMES = {
        "code", "symbol", "send", "receive", "put", "take", "word", "raw", "bend", "lose", "bit",
        "count", "isPlus", "clear"
    };
    // How often each call comes, for runs of several kinds: mixed, of tens, of words.
    private static final int[][] OFTEN = {
        {3, 3, 10, 20, 8, 12, 3, 8, 6, 3, 3, 20, 3, 0},
        {1, 1, 30, 40, 0, 0, 0, 3, 3, 1, 2, 15, 5, 0},
        {0, 0, 0, 0, 16, 40, 8, 2, 8, 1, 2, 12, 0, 0},
        {0, 0, 15, 60, 0, 0, 0, 10, 8, 3, 0, 12, 3, 0},
        {4, 4, 10, 20, 10, 10, 3, 30, 6, 3, 3, 20, 3, 2}
    };

    private static int wrong = 0;
    private static int asked = 0;

    private final Random random;
    private LineCoder real = new LineCoder();
    private Model model = new Model();

    private RandomRunsTest(int seed) {
        random = new Random(seed);
    }

    public static void main(String[] args) {
        for (int run = 0; run < RUNS && wrong < 20; run++) {
            new RandomRunsTest(run).run(run);
        }
        System.out.println("RandomRunsTest: " + asked + " answers, " + wrong + " not as due");
        if (wrong != 0) {
            System.exit(1);
        }
    }

    private void run(int run) {
        int[] often = OFTEN[run % OFTEN.length];
        for (int i = 0; i < CALLS; i++) {
            String name = pick(often);
            if (name.equals("clear")) {
                real.clear();
                model = new Model();
            } else if (!call(run, i, name)) {
                return;
            }
        }
    }

    private String pick(int[] often) {
        int sum = 0;
        for (int one : often) {
            sum += one;
        }
        int left = random.nextInt(sum);
        int k = 0;
        while (left >= often[k]) {
            left -= often[k];
            k++;
        }
        return NAMES[k];
    }

    private boolean call(int run, int i, String name) {
        int a = firstOf(name);
        int b = secondOf(name, a);
        int c = thirdOf(name);
        long word = random.nextInt(4) == 0 ? random.nextInt(3) - 1 : random.nextLong();
        String due = model.answer(name, a, b, c, word);
        String got;
        try {
            got = "" + answer(name, a, b, c, word);
        } catch (RuntimeException e) {
            got = e.getClass().getSimpleName();
        }
        asked++;
        if (!got.equals(due)) {
            wrong++;
            System.out.println("run " + run + ", call " + i + ": " + name + "(" + a + ", " + b + ", "
                    + c + ", " + word + ") answered " + got + ", due is " + due);
            return false;
        }
        return true;
    }

    private int firstOf(String name) {
        switch (name) {
            case "code": return random.nextInt(530) - 9;
            case "symbol": return random.nextInt(1040) - 8;
            case "send": return symbolToSend();
            case "put": case "isPlus": return random.nextInt(2);
            default: return random.nextInt(60) == 0 ? random.nextInt(5) - 2 : random.nextInt(2);
        }
    }

    private int symbolToSend() {
        int kind = random.nextInt(10);
        if (kind < 3) {
            return 316 + 128 * random.nextInt(2);
        }
        return kind == 3 ? random.nextInt(530) - 9 : random.nextInt(256);
    }

    private int secondOf(String name, int stream) {
        if (name.equals("code")) {
            return random.nextInt(2);
        }
        if (name.equals("raw")) {
            return rawNumber();
        }
        if (name.equals("count")) {
            return random.nextInt(40) == 0 ? random.nextInt(20) - 5 : random.nextInt(9);
        }
        if (random.nextInt(30) == 0) {
            return random.nextInt();
        }
        // Near the receiver's place, so that what is bent or lost is received later on.
        int inStream = stream == 0 || stream == 1 ? stream : 0;
        int place = Integer.parseInt(model.answer("count", inStream, 1, 0, 0L));
        return place + random.nextInt(140) - 10;
    }

    private int rawNumber() {
        int kind = random.nextInt(5);
        if (kind == 0) {
            return 0b0011111010 << random.nextInt(3);
        }
        return kind == 1 ? 0b1100000101 : kind == 2 ? 0b0101010101 : random.nextInt();
    }

    private int thirdOf(String name) {
        if (name.equals("lose") && random.nextInt(3) > 0) {
            return random.nextInt(12) - 1;
        }
        if (name.equals("raw") && random.nextInt(3) > 0) {
            return 10;
        }
        return random.nextInt(20) == 0 ? random.nextInt() : random.nextInt(36) - 1;
    }

    private long answer(String name, int a, int b, int c, long word) {
        switch (name) {
            case "code": return real.code(a, b == 1);
            case "symbol": return real.symbol(a);
            case "send": return real.send(a);
            case "receive": return real.receive();
            case "put": return real.put(word, a == 1);
            case "take": return real.take();
            case "word": return real.word();
            case "raw": return real.raw(a, b, c);
            case "bend": return real.bend(a, b) ? 1 : 0;
            case "lose": return real.lose(a, b, c);
            case "bit": return real.bit(a, b);
            case "count": return real.count(a, b);
            case "isPlus": return real.isPlus(a == 1) ? 1 : 0;
            default: throw new AssertionError(name);
        }
    }
}
