import java.util.Arrays;
import java.util.Random;

// Long mixed runs of calls beside a model that holds every word as a sign and five bytes, one by one.
// The seed is fixed, so every run of this test makes the same calls.
public final class WordFieldsModel {
    private static final int OBJECTS = 2000;
    private static final int CALLS = 512;
    private static final int[] EDGES = {
        0, 1, -1, 63, 64, -64, (1 << 30) - 1, 1 << 30, -(1 << 30) + 1, -(1 << 30),
        Integer.MIN_VALUE, Integer.MIN_VALUE + 1, Integer.MAX_VALUE
    };

    private static final Random random = new Random(20261115);
    private static int wrong = 0;

    private final int[][] words = new int[16][6];

    public static void main(String[] args) {
        for (int i = 0; i < OBJECTS && wrong < 20; i++) {
            run();
        }
        System.out.println(wrong == 0 ? "all answers are as due" : wrong + " answers are not as due");
        if (wrong != 0) {
            System.exit(1);
        }
    }

    private static void run() {
        WordFields x = new WordFields();
        WordFieldsModel model = new WordFieldsModel();
        for (int i = 0; i < CALLS / 2; i++) {
            int r = register();
            model.change(x, r, register(), field());
            model.look(x, r, register(), field());
        }
    }

    private void change(WordFields x, int r, int from, int field) {
        switch (random.nextInt(5)) {
            case 0: case 1: {
                int value = random.nextInt(3) == 0 ? EDGES[random.nextInt(EDGES.length)] : random.nextInt() >> random.nextInt(31);
                boolean minus = random.nextBoolean();
                due("set(" + r + ", " + value + ", " + minus + ")", x.set(r, value, minus) ? 1 : 0, set(r, value, minus) ? 1 : 0);
                break;
            }
            case 2:
                due("load(" + r + ", " + from + ", " + field + ")", x.load(r, from, field) ? 1 : 0, load(r, from, field) ? 1 : 0);
                break;
            case 3:
                due("store(" + r + ", " + from + ", " + field + ")", x.store(r, from, field) ? 1 : 0, store(r, from, field) ? 1 : 0);
                break;
            default:
                due("turn(" + r + ")", x.turn(r) ? 1 : 0, turn(r) ? 1 : 0);
        }
    }

    private void look(WordFields x, int r, int other, int field) {
        switch (random.nextInt(3)) {
            case 0:
                due("value(" + r + ")", x.value(r), value(r));
                break;
            case 1: {
                int k = random.nextInt(8) - 1;
                boolean none = r < 0 || r > 15 || k < 0 || k > 5;
                due("byteOf(" + r + ", " + k + ")", x.byteOf(r, k), none ? -1 : words[r][k]);
                break;
            }
            default:
                due("compare(" + r + ", " + other + ", " + field + ")", x.compare(r, other, field), compare(r, other, field));
        }
    }

    private boolean set(int r, int value, boolean minus) {
        long size = Math.abs((long) value);
        if (r < 0 || r > 15 || size >= 1L << 30) {
            return false;
        }
        words[r][0] = value < 0 || value == 0 && minus ? 1 : 0;
        for (int k = 5; k >= 1; k--) {
            words[r][k] = (int) (size % 64);
            size /= 64;
        }
        return true;
    }

    private int value(int r) {
        if (r < 0 || r > 15) {
            return Integer.MAX_VALUE;
        }
        long number = number(words[r]);
        return number == 0 && words[r][0] == 1 ? Integer.MIN_VALUE : (int) number;
    }

    private boolean load(int r, int from, int field) {
        if (isNone(r, from, field)) {
            return false;
        }
        words[r] = part(words[from], field);
        return true;
    }

    private boolean store(int r, int from, int field) {
        if (isNone(r, from, field)) {
            return false;
        }
        int[] source = words[from].clone();
        int left = field / 8;
        int right = field % 8;
        for (int k = right, taken = 5; k >= left && k >= 1; k--, taken--) {
            words[r][k] = source[taken];
        }
        if (left == 0) {
            words[r][0] = source[0];
        }
        return true;
    }

    private boolean turn(int r) {
        if (r < 0 || r > 15) {
            return false;
        }
        words[r][0] = 1 - words[r][0];
        return true;
    }

    private int compare(int r, int other, int field) {
        if (isNone(r, other, field)) {
            return -2;
        }
        return Long.compare(number(part(words[r], field)), number(part(words[other], field)));
    }

    private static int[] part(int[] word, int field) {
        int[] part = new int[6];
        int left = field / 8;
        int right = field % 8;
        for (int k = right, put = 5; k >= left && k >= 1; k--, put--) {
            part[put] = word[k];
        }
        part[0] = left == 0 ? word[0] : 0;
        return part;
    }

    private static long number(int[] word) {
        long size = Arrays.stream(word, 1, 6).asLongStream().reduce(0, (all, b) -> all * 64 + b);
        return word[0] == 1 ? -size : size;
    }

    private static boolean isNone(int r, int other, int field) {
        return r < 0 || r > 15 || other < 0 || other > 15
            || field < 0 || field % 8 > 5 || field / 8 > field % 8;
    }

    // A few numbers that are none stand among many that are.
    private static int register() {
        return random.nextInt(40) == 0 ? random.nextInt() | 16 : random.nextInt(16);
    }

    private static int field() {
        if (random.nextInt(10) == 0) {
            return random.nextInt(80) - 10;
        }
        int left = random.nextInt(6);
        return 8 * left + left + random.nextInt(6 - left);
    }

    private static void due(String call, int got, int want) {
        if (got != want) {
            wrong++;
            System.out.println(call + " answered " + got + ", due is " + want);
        }
    }
}
