// One method for each promise of the document: ordinary inputs, the edges that it names, and wrong inputs.
public final class WordFieldsPromises {
    private static final int MINUS_ZERO = Integer.MIN_VALUE;
    private static final int NO_VALUE = Integer.MAX_VALUE;
    private static final int MOST = (1 << 30) - 1;
    private static final int[] NO_REGISTERS = {-1, 16, 17, 32, Integer.MIN_VALUE, Integer.MAX_VALUE};
    private static final int[] NO_FIELDS = {
        -1, -3, -8, 6, 7, 8, 14, 15, 16, 17, 26, 40, 44, 46, 47, 48, 53, 54, 61, 64, 69, 256, 261,
        Integer.MIN_VALUE, Integer.MIN_VALUE + 5, Integer.MAX_VALUE
    };

    private static int wrong = 0;
    private static String promise = "";

    public static void main(String[] args) {
        aNewObject();
        set();
        value();
        byteOf();
        load();
        store();
        turn();
        compare();
        isField();
        letter();
        code();
        System.out.println(wrong == 0 ? "all answers are as due" : wrong + " answers are not as due");
        if (wrong != 0) {
            System.exit(1);
        }
    }

    private static void aNewObject() {
        promise = "1 (a new object)";
        WordFields used = new WordFields();
        for (int r = 0; r < 16; r++) {
            used.set(r, -5, false);
        }
        WordFields x = new WordFields();
        for (int r = 0; r < 16; r++) {
            due("value(" + r + ")", x.value(r), 0);
            due("the sign of " + r, x.byteOf(r, 0), 0);
            due("the used object's value(" + r + ")", used.value(r), -5);
        }
        due("NONE", WordFields.NONE, -1);
    }

    private static void set() {
        promise = "2 (set)";
        WordFields x = new WordFields();
        int[] values = {1, -1, 63, 64, -64, 123456789, -123456789, MOST, -MOST};
        for (int value : values) {
            due("set(3, " + value + ", false)", x.set(3, value, false), true);
            due("value after it", x.value(3), value);
            due("set(3, " + value + ", true)", x.set(3, value, true), true);
            due("value after it, minus being for 0 alone", x.value(3), value);
        }
        due("set(3, 0, true)", x.set(3, 0, true), true);
        due("value of -0", x.value(3), MINUS_ZERO);
        due("set(3, 0, false)", x.set(3, 0, false), true);
        due("value of +0", x.value(3), 0);
        setOfNoMagnitude(x);
        setOfEveryRegister();
    }

    private static void setOfNoMagnitude(WordFields x) {
        x.set(3, -77, false);
        int[] values = {MOST + 1, -MOST - 1, MOST + 2, -MOST - 2, Integer.MAX_VALUE, Integer.MIN_VALUE, Integer.MIN_VALUE + 1};
        for (int value : values) {
            due("set(3, " + value + ", false)", x.set(3, value, false), false);
            due("set(3, " + value + ", true)", x.set(3, value, true), false);
            due("value after it", x.value(3), -77);
        }
    }

    private static void setOfEveryRegister() {
        WordFields x = new WordFields();
        for (int r = 0; r < 16; r++) {
            due("set(" + r + ")", x.set(r, 100 + r, false), true);
        }
        for (int r : NO_REGISTERS) {
            due("set(" + r + ", 1, false)", x.set(r, 1, false), false);
            due("set(" + r + ", 0, true)", x.set(r, 0, true), false);
        }
        for (int r = 0; r < 16; r++) {
            due("value(" + r + ")", x.value(r), 100 + r);
        }
    }

    private static void value() {
        promise = "3 (value)";
        WordFields x = new WordFields();
        x.set(0, -MOST, false);
        x.set(15, MOST, false);
        x.set(7, 0, true);
        due("value(0)", x.value(0), -1073741823);
        due("value(15)", x.value(15), 1073741823);
        due("value(7)", x.value(7), MINUS_ZERO);
        due("value(8)", x.value(8), 0);
        for (int r : NO_REGISTERS) {
            due("value(" + r + ")", x.value(r), NO_VALUE);
        }
    }

    private static void byteOf() {
        promise = "4 (byteOf)";
        WordFields x = new WordFields();
        x.set(0, -bytes(1, 2, 3, 4, 5), false);
        x.set(15, MOST, false);
        x.set(2, 0, true);
        int[] due = {1, 1, 2, 3, 4, 5};
        for (int k = 0; k <= 5; k++) {
            due("byteOf(0, " + k + ")", x.byteOf(0, k), due[k]);
            due("byteOf(15, " + k + ")", x.byteOf(15, k), k == 0 ? 0 : 63);
            due("byteOf(2, " + k + ")", x.byteOf(2, k), k == 0 ? 1 : 0);
        }
        int[] noBytes = {-1, 6, 7, 32, Integer.MIN_VALUE, Integer.MAX_VALUE};
        for (int k : noBytes) {
            due("byteOf(0, " + k + ")", x.byteOf(0, k), -1);
        }
        for (int r : NO_REGISTERS) {
            due("byteOf(" + r + ", 0)", x.byteOf(r, 0), -1);
            due("byteOf(" + r + ", 5)", x.byteOf(r, 5), -1);
        }
    }

    private static void load() {
        promise = "5 (load)";
        int minus = -bytes(1, 2, 3, 4, 5);
        loadDue(minus, field(0, 5), minus);
        loadDue(minus, field(1, 5), bytes(1, 2, 3, 4, 5));
        loadDue(minus, field(0, 0), MINUS_ZERO);
        loadDue(minus, field(0, 1), -bytes(0, 0, 0, 0, 1));
        loadDue(minus, field(0, 2), -bytes(0, 0, 0, 1, 2));
        loadDue(minus, field(1, 1), bytes(0, 0, 0, 0, 1));
        loadDue(minus, field(3, 5), bytes(0, 0, 3, 4, 5));
        loadDue(minus, field(2, 3), bytes(0, 0, 0, 2, 3));
        loadDue(minus, field(4, 4), bytes(0, 0, 0, 0, 4));
        loadDue(minus, field(5, 5), bytes(0, 0, 0, 0, 5));
        loadDue(-minus, field(0, 0), 0);
        loadDue(-minus, field(0, 3), bytes(0, 0, 1, 2, 3));
        loadDue(-63, field(0, 4), MINUS_ZERO);
        loadDue(-63, field(1, 4), 0);
        loadOntoItself();
        loadRefused();
    }

    private static void loadDue(int from, int field, int due) {
        WordFields x = new WordFields();
        x.set(4, -MOST, false);
        x.set(9, from, false);
        due("load(4, 9, " + field + ") of " + from, x.load(4, 9, field), true);
        due("value after load of field " + field + " of " + from, x.value(4), due);
        due("value of the register that was loaded from", x.value(9), from);
    }

    private static void loadOntoItself() {
        WordFields x = new WordFields();
        x.set(15, -bytes(1, 2, 3, 4, 5), false);
        due("load(15, 15, (2:4))", x.load(15, 15, field(2, 4)), true);
        due("value after it", x.value(15), bytes(0, 0, 2, 3, 4));
    }

    private static void loadRefused() {
        WordFields x = filled();
        for (int r : NO_REGISTERS) {
            due("load(" + r + ", 0, 5)", x.load(r, 0, 5), false);
            due("load(0, " + r + ", 5)", x.load(0, r, 5), false);
        }
        for (int field : NO_FIELDS) {
            due("load(0, 1, " + field + ")", x.load(0, 1, field), false);
        }
        dueUnchanged(x);
    }

    private static void store() {
        promise = "6 (store)";
        int minus = -bytes(1, 2, 3, 4, 5);
        int plus = bytes(6, 7, 8, 9, 10);
        storeDue(minus, plus, field(0, 5), plus);
        storeDue(minus, plus, field(1, 5), -plus);
        storeDue(minus, plus, field(5, 5), -bytes(1, 2, 3, 4, 10));
        storeDue(minus, plus, field(2, 2), -bytes(1, 10, 3, 4, 5));
        storeDue(minus, plus, field(2, 3), -bytes(1, 9, 10, 4, 5));
        storeDue(minus, plus, field(1, 3), -bytes(8, 9, 10, 4, 5));
        storeDue(minus, plus, field(0, 1), bytes(10, 2, 3, 4, 5));
        storeDue(minus, plus, field(0, 2), bytes(9, 10, 3, 4, 5));
        storeDue(minus, plus, field(0, 0), -minus);
        storeDue(plus, minus, field(0, 0), -plus);
        storeDue(plus, minus, field(0, 4), -bytes(2, 3, 4, 5, 10));
        storeDue(plus, minus, field(3, 4), bytes(6, 7, 4, 5, 10));
        storeDue(0, minus, field(0, 0), MINUS_ZERO);
        storeDue(-63, 0, field(5, 5), MINUS_ZERO);
        storeDue(0, MOST, field(1, 1), 63 << 24);
        storeOntoItself();
        storeRefused();
    }

    private static void storeDue(int into, int from, int field, int due) {
        WordFields x = new WordFields();
        x.set(4, into, false);
        x.set(9, from, false);
        due("store(4, 9, " + field + ") of " + from + " into " + into, x.store(4, 9, field), true);
        due("value after store of " + from + " into field " + field + " of " + into, x.value(4), due);
        due("value of the register that was stored from", x.value(9), from);
    }

    private static void storeOntoItself() {
        WordFields x = new WordFields();
        x.set(15, -bytes(1, 2, 3, 4, 5), false);
        due("store(15, 15, (0:2))", x.store(15, 15, field(0, 2)), true);
        due("value after it", x.value(15), -bytes(4, 5, 3, 4, 5));
    }

    private static void storeRefused() {
        WordFields x = filled();
        for (int r : NO_REGISTERS) {
            due("store(" + r + ", 0, 5)", x.store(r, 0, 5), false);
            due("store(0, " + r + ", 5)", x.store(0, r, 5), false);
        }
        for (int field : NO_FIELDS) {
            due("store(0, 1, " + field + ")", x.store(0, 1, field), false);
        }
        dueUnchanged(x);
    }

    private static void turn() {
        promise = "7 (turn)";
        WordFields x = new WordFields();
        int[] values = {1, -1, MOST, -MOST, 123456789};
        for (int value : values) {
            x.set(15, value, false);
            due("turn(15)", x.turn(15), true);
            due("value after turn of " + value, x.value(15), -value);
        }
        due("turn(0)", x.turn(0), true);
        due("value after turn of +0", x.value(0), MINUS_ZERO);
        due("turn(0)", x.turn(0), true);
        due("value after turn of -0", x.value(0), 0);
        WordFields y = filled();
        for (int r : NO_REGISTERS) {
            due("turn(" + r + ")", y.turn(r), false);
        }
        dueUnchanged(y);
    }

    private static void compare() {
        promise = "8 (compare)";
        int small = bytes(1, 2, 3, 4, 5);
        int great = bytes(1, 3, 2, 4, 6);
        compareDue(small, great, field(0, 5), -1);
        compareDue(small, -great, field(0, 5), 1);
        compareDue(-small, -great, field(0, 5), 1);
        compareDue(-small, great, field(0, 5), -1);
        compareDue(-small, -small, field(0, 5), 0);
        compareDue(-small, small, field(0, 5), -1);
        compareDue(-small, small, field(1, 5), 0);
        compareDue(-small, -great, field(1, 5), -1);
        compareDue(small, great, field(0, 1), 0);
        compareDue(-small, great, field(0, 1), -1);
        compareDue(small, great, field(2, 2), -1);
        compareDue(small, great, field(3, 3), 1);
        compareDue(small, great, field(3, 5), 1);
        compareDue(small, great, field(4, 4), 0);
        compareDue(small, great, field(5, 5), -1);
        compareDue(-small, great, field(0, 0), 0);
        compareDue(MOST, -MOST, field(0, 5), 1);
        compareDue(-1, 1, field(0, 4), 0);
        compareOfZeros();
        compareRefused();
    }

    private static void compareDue(int one, int two, int field, int due) {
        WordFields x = new WordFields();
        x.set(0, one, false);
        x.set(15, two, false);
        due("compare(0, 15, " + field + ") of " + one + " and " + two, x.compare(0, 15, field), due);
        due("compare(15, 0, " + field + ") of " + two + " and " + one, x.compare(15, 0, field), -due);
        due("compare(0, 0, " + field + ")", x.compare(0, 0, field), 0);
        due("value of the first after it", x.value(0), one);
        due("value of the second after it", x.value(15), two);
    }

    private static void compareOfZeros() {
        WordFields x = new WordFields();
        x.set(1, 0, true);
        due("compare of +0 and -0", x.compare(0, 1, 5), 0);
        due("compare of -0 and +0", x.compare(1, 0, 5), 0);
        x.set(0, 1, false);
        due("compare of 1 and -0", x.compare(0, 1, 5), 1);
        x.set(0, -1, false);
        due("compare of -1 and -0", x.compare(0, 1, 5), -1);
    }

    private static void compareRefused() {
        WordFields x = filled();
        for (int r : NO_REGISTERS) {
            due("compare(" + r + ", 0, 5)", x.compare(r, 0, 5), -2);
            due("compare(0, " + r + ", 5)", x.compare(0, r, 5), -2);
            due("compare(" + r + ", " + r + ", 5)", x.compare(r, r, 5), -2);
        }
        for (int field : NO_FIELDS) {
            due("compare(0, 1, " + field + ")", x.compare(0, 1, field), -2);
            due("compare(0, 0, " + field + ")", x.compare(0, 0, field), -2);
        }
        dueUnchanged(x);
    }

    private static void isField() {
        promise = "9 (isField)";
        boolean[] fields = new boolean[1000];
        for (int left = 0; left <= 5; left++) {
            for (int right = left; right <= 5; right++) {
                fields[field(left, right)] = true;
            }
        }
        WordFields x = new WordFields();
        for (int field = -1000; field < 1000; field++) {
            due("isField(" + field + ")", x.isField(field), field >= 0 && fields[field]);
            if (field % 400 == 0) {
                x = new WordFields();
            }
        }
        for (int field : NO_FIELDS) {
            due("isField(" + field + ")", x.isField(field), false);
        }
    }

    private static void letter() {
        promise = "10 (letter)";
        char[] letters = {
            ' ', 'A', 'B', 'C', 'D', 'E', 'F', 'G', 'H', 'I',
            '~', 'J', 'K', 'L', 'M', 'N', 'O', 'P', 'Q', 'R',
            '[', '#', 'S', 'T', 'U', 'V', 'W', 'X', 'Y', 'Z',
            '0', '1', '2', '3', '4', '5', '6', '7', '8', '9',
            '.', ',', '(', ')', '+', '-', '*', '/', '=', '$',
            '<', '>', '@', ';', ':', '\'',
            '?', '?', '?', '?', '?', '?', '?', '?'
        };
        WordFields x = new WordFields();
        for (int b = 0; b < 64; b++) {
            due("letter(" + b + ")", x.letter(b), letters[b]);
        }
        int[] noBytes = {-1, -2, 64, 65, 255, 256, Integer.MIN_VALUE, Integer.MAX_VALUE};
        for (int b : noBytes) {
            due("letter(" + b + ")", x.letter(b), -1);
        }
    }

    private static void code() {
        promise = "11 (code)";
        String greatAndSmall = "ABCDEFGHI~JKLMNOPQR[#STUVWXYZ";
        String others = "0123456789.,()+-*/=$<>@;:'";
        int[] due = new int[256];
        for (int i = 0; i < greatAndSmall.length(); i++) {
            char great = greatAndSmall.charAt(i);
            due[great] = i + 1;
            if (great >= 'A' && great <= 'Z') {
                due[great + 32] = i + 1;
            }
        }
        for (int i = 0; i < others.length(); i++) {
            due[others.charAt(i)] = 30 + i;
        }
        WordFields x = new WordFields();
        for (int letter = 0; letter < 256; letter++) {
            due("code(" + letter + ")", x.code(letter), due[letter]);
        }
        int[] noLetters = {-1, -32, 256, 257, 65536 + 'A', Integer.MIN_VALUE, Integer.MIN_VALUE + 'A', Integer.MAX_VALUE};
        for (int letter : noLetters) {
            due("code(" + letter + ")", x.code(letter), -1);
        }
    }

    private static WordFields filled() {
        WordFields x = new WordFields();
        for (int r = 0; r < 16; r++) {
            x.set(r, filling(r), false);
        }
        return x;
    }

    private static int filling(int r) {
        int size = bytes(r + 1, r + 2, r + 3, r + 4, r + 5);
        return r % 2 == 0 ? size : -size;
    }

    private static void dueUnchanged(WordFields x) {
        for (int r = 0; r < 16; r++) {
            due("value(" + r + ") after calls that were refused", x.value(r), filling(r));
        }
    }

    private static int bytes(int b1, int b2, int b3, int b4, int b5) {
        return (((b1 * 64 + b2) * 64 + b3) * 64 + b4) * 64 + b5;
    }

    private static int field(int left, int right) {
        return 8 * left + right;
    }

    private static void due(String call, boolean got, boolean want) {
        due(call, got ? 1 : 0, want ? 1 : 0);
    }

    private static void due(String call, int got, int want) {
        if (got != want) {
            wrong++;
            System.out.println("promise " + promise + ": " + call + " answered " + got + ", due is " + want);
        }
    }
}
