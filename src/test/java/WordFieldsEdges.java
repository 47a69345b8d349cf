// One method for each sentence of the document that names a boundary case, the sentence standing in it as it is
// written there. The due answers are written out, not worked out the way the class does it.
public final class WordFieldsEdges {
    private static final int LEAST = Integer.MIN_VALUE;
    private static final int GREATEST = Integer.MAX_VALUE;
    private static final int NOT_COMPARED = -2;
    private static final int[] NO_REGISTERS = {-1, 16, -16, 31, 32, 256, LEAST, LEAST + 1, GREATEST};
    private static final int[] NO_BYTES = {-1, 6, -6, 7, 8, 32, LEAST, LEAST + 1, GREATEST};

    // Fields 8 * L + R, and what each takes from the word - (1, 2, 3, 4, 5), told as a value.
    private static final int[][] FIELDS = {
        {0, LEAST}, {1, -1}, {2, -66}, {3, -4227}, {4, -270532}, {5, -17314053},
        {9, 1}, {10, 66}, {11, 4227}, {12, 270532}, {13, 17314053},
        {18, 2}, {19, 131}, {20, 8388}, {21, 536837},
        {27, 3}, {28, 196}, {29, 12549},
        {36, 4}, {37, 261},
        {45, 5}
    };
    private static final int MINUS_12345 = -17314053;

    private static int wrong = 0;
    private static int sentences = 0;
    private static String sentence = "";

    public static void main(String[] args) {
        whatItIs();
        terms();
        newObjectAndSet();
        valueAndByteOf();
        load();
        store();
        turnAndCompare();
        isFieldLetterAndCode();
        System.out.println(sentences + " sentences: "
            + (wrong == 0 ? "all answers are as due" : wrong + " answers are not as due"));
        if (wrong != 0) {
            System.exit(1);
        }
    }

    private static void whatItIs() {
        aWholeLifeOfCallsThatChange();
        aWholeLifeOfCallsThatAreRefused();
    }

    private static void terms() {
        everyByteHoldsNoughtTo63();
        theHighestByteIsTheFirst();
        aMagnitudeIsBelowTwoToThe30();
        plusAndMinusZeroAreTwoWords();
        theLeftOfAFieldIsNoughtOrMore();
        theLeftOfAFieldIsNotPastItsRight();
        theRightOfAFieldIsAtMost5();
        byteNoughtOfAFieldIsTheSign();
        sixteenRegisters();
        minusZeroIsToldAsTheLeastInt();
        memoryIsTheObjectsOwn();
        aRegisterThatIsNoneIsRefused();
        aByteThatIsNoneIsRefused();
        aFieldThatIsNoneIsRefused();
    }

    private static void newObjectAndSet() {
        allRegistersArePlusZeroAtFirst();
        setMinusWhereTheValueIsZero();
        setMinusWhereTheValueIsNotZero();
        setReplacesTheWholeWord();
        setOfASizeThatIsNoMagnitude();
        setOfTheLeastInt();
    }

    private static void valueAndByteOf() {
        valueAtBothEnds();
        valueOfMinusZero();
        valueOfNoRegister();
        bytesOneToFive();
        byteNoughtIsTheSign();
        byteOfNone();
    }

    private static void load() {
        loadOfEveryField();
        loadMakesTheOtherBytesZero();
        loadOfTheSign();
        loadWithoutTheSign();
        loadOfARegisterIntoItself();
    }

    private static void store() {
        storeIntoEveryField();
        storeTakesFromTheRight();
        storeOfTheSign();
        storeWithoutTheSign();
        storeOfTheSignAlone();
        storeOfARegisterIntoItself();
    }

    private static void turnAndCompare() {
        turnOfZeros();
        turnAtBothEnds();
        turnOfNoRegister();
        compareAsNumbers();
        compareOfFieldsWithoutTheSign();
        compareOfZeros();
        compareOfSomethingThatIsNone();
    }

    private static void isFieldLetterAndCode() {
        everyFieldAndNoOther();
        numbersFarFromFields();
        lettersOfNoughtTo55();
        lettersOfOtherBytes();
        letterOfOtherNumbers();
        codeOfEveryLetter();
        codeOfSmallLetters();
        codeOfWhatIsNoLetter();
        codeAtTheEndsOfNoughtTo255();
        codeOfOtherNumbers();
    }

    // What it is

    private static void aWholeLifeOfCallsThatChange() {
        sentence("An object is used for at most 512 calls after it has been made");
        WordFields x = new WordFields();
        for (int i = 0; i < 256; i++) {
            due("set(15, .., false), call " + (2 * i + 1), x.set(15, i - 128, false), true);
            due("value(15), call " + (2 * i + 2), x.value(15), i - 128);
        }
        WordFields y = new WordFields();
        for (int i = 1; i < 512; i++) {
            due("turn(0), call " + i, y.turn(0), true);
        }
        due("value(0), call 512", y.value(0), LEAST);
    }

    private static void aWholeLifeOfCallsThatAreRefused() {
        sentence("An object is used for at most 512 calls after it has been made (refused ones count as well)");
        WordFields x = new WordFields();
        for (int i = 1; i < 512; i++) {
            due("set(16, 1, false), call " + i, x.set(16, 1, false), false);
        }
        due("set(15, 1, false), call 512", x.set(15, 1, false), true);
    }

    // Terms

    private static void everyByteHoldsNoughtTo63() {
        sentence("five BYTES 0 .. 63");
        int[] alone = {63 << 24, 63 << 18, 63 << 12, 63 << 6, 63};
        WordFields x = new WordFields();
        for (int full = 1; full <= 5; full++) {
            x.set(0, -alone[full - 1], false);
            for (int k = 1; k <= 5; k++) {
                due("byteOf(0, " + k + "), byte " + full + " alone being 63", x.byteOf(0, k), k == full ? 63 : 0);
            }
            x.set(0, 1073741823 - alone[full - 1], false);
            for (int k = 1; k <= 5; k++) {
                due("byteOf(0, " + k + "), byte " + full + " alone being 0", x.byteOf(0, k), k == full ? 0 : 63);
            }
        }
    }

    private static void theHighestByteIsTheFirst() {
        sentence("1 to 5, the highest first");
        WordFields x = new WordFields();
        int[] worth = {16777216, 262144, 4096, 64, 1};
        for (int k = 1; k <= 5; k++) {
            x.set(1, worth[k - 1], false);
            due("byteOf(1, " + k + ") of " + worth[k - 1], x.byteOf(1, k), 1);
            x.set(1, worth[k - 1] - 1, false);
            due("byteOf(1, " + k + ") of " + (worth[k - 1] - 1), x.byteOf(1, k), 0);
        }
    }

    private static void aMagnitudeIsBelowTwoToThe30() {
        sentence("its MAGNITUDE is below 2 to the power 30");
        WordFields x = new WordFields();
        due("set(0, 1073741823, false)", x.set(0, 1073741823, false), true);
        due("value(0)", x.value(0), 1073741823);
        due("set(0, 1073741824, false)", x.set(0, 1073741824, false), false);
        due("value(0)", x.value(0), 1073741823);
        due("set(0, -1073741823, false)", x.set(0, -1073741823, false), true);
        due("value(0)", x.value(0), -1073741823);
        due("set(0, -1073741824, false)", x.set(0, -1073741824, false), false);
        due("value(0)", x.value(0), -1073741823);
    }

    private static void plusAndMinusZeroAreTwoWords() {
        sentence("+0 and -0 are two words");
        WordFields x = new WordFields();
        x.set(0, 0, true);
        x.set(1, 0, false);
        due("value of -0", x.value(0), LEAST);
        due("value of +0", x.value(1), 0);
        due("sign of -0", x.byteOf(0, 0), 1);
        due("sign of +0", x.byteOf(1, 0), 0);
    }

    private static void theLeftOfAFieldIsNoughtOrMore() {
        sentence("A FIELD (L:R), as a number 8 * L + R, 0 <= L");
        for (int right = 0; right <= 5; right++) {
            dueField(right, true);
            dueField(-8 + right, false);
            dueField(-16 + right, false);
            dueField(LEAST + right, false);
        }
    }

    private static void theLeftOfAFieldIsNotPastItsRight() {
        sentence("A FIELD (L:R), as a number 8 * L + R, L <= R");
        for (int right = 0; right <= 5; right++) {
            dueField(8 * right + right, true);
            dueField(8 * (right + 1) + right, false);
            dueField(8 * 7 + right, false);
            dueField(8 * 8 + right, false);
        }
    }

    private static void theRightOfAFieldIsAtMost5() {
        sentence("A FIELD (L:R), as a number 8 * L + R, R <= 5");
        for (int left = 0; left <= 5; left++) {
            dueField(8 * left + 5, true);
            dueField(8 * left + 6, false);
            dueField(8 * left + 7, false);
        }
        dueField(8 * 6 + 6, false);
        dueField(8 * 7 + 7, false);
    }

    // A number is a field, or is none, for every call that takes one.
    private static void dueField(int field, boolean want) {
        WordFields x = filled();
        due("isField(" + field + ")", x.isField(field), want);
        due("compare(3, 3, " + field + ")", x.compare(3, 3, field), want ? 0 : NOT_COMPARED);
        due("load(3, 4, " + field + ")", x.load(3, 4, field), want);
        due("store(5, 6, " + field + ")", x.store(5, 6, field), want);
        if (!want) {
            dueUnchanged(x);
        }
    }

    private static void byteNoughtOfAFieldIsTheSign() {
        sentence("has bytes L .. R (0 being the sign)");
        WordFields x = new WordFields();
        x.set(1, -1073741823, false);
        due("load(0, 1, (0:0))", x.load(0, 1, 0), true);
        due("value of the sign alone", x.value(0), LEAST);
        due("load(0, 1, (0:1))", x.load(0, 1, 1), true);
        due("value of the sign and one byte", x.value(0), -63);
        due("load(0, 1, (1:1))", x.load(0, 1, 9), true);
        due("value of one byte", x.value(0), 63);
    }

    private static void sixteenRegisters() {
        sentence("Sixteen REGISTERS 0 .. 15 are words");
        WordFields x = new WordFields();
        for (int r = 0; r <= 15; r++) {
            due("set(" + r + ", ..)", x.set(r, 1000 + r, false), true);
        }
        for (int r = 0; r <= 15; r++) {
            due("value(" + r + ")", x.value(r), 1000 + r);
            due("byteOf(" + r + ", 5)", x.byteOf(r, 5), 40 + r);
            due("compare(" + r + ", 7, (0:5))", x.compare(r, 7, 5), r < 7 ? -1 : r == 7 ? 0 : 1);
            due("compare(7, " + r + ", (0:5))", x.compare(7, r, 5), r < 7 ? 1 : r == 7 ? 0 : -1);
        }
        for (int r = 0; r <= 15; r++) {
            due("turn(" + r + ")", x.turn(r), true);
            due("value(" + r + ")", x.value(r), -1000 - r);
        }
        for (int r = 0; r <= 15; r++) {
            WordFields y = new WordFields();
            y.set(15 - r, -77, false);
            due("load(" + r + ", " + (15 - r) + ", (1:5))", y.load(r, 15 - r, 13), true);
            due("value(" + r + ")", y.value(r), 77);
            due("turn(" + r + ")", y.turn(r), true);
            due("store(" + (15 - r) + ", " + r + ", (0:4))", y.store(15 - r, r, 4), true);
            due("value(" + (15 - r) + ")", y.value(15 - r), -64 * 77 - 13);
        }
    }

    private static void minusZeroIsToldAsTheLeastInt() {
        sentence("Words are told as values, -0 as the least int");
        WordFields x = new WordFields();
        x.set(15, 0, true);
        due("value(15)", x.value(15), -2147483648);
    }

    private static void memoryIsTheObjectsOwn() {
        sentence("All memory is the class's own");
        WordFields x = new WordFields();
        WordFields y = new WordFields();
        x.set(0, 7, false);
        y.turn(0);
        x.store(1, 0, 5);
        due("value(0) of the one", x.value(0), 7);
        due("value(1) of the one", x.value(1), 7);
        due("value(0) of the other", y.value(0), LEAST);
        due("value(1) of the other", y.value(1), 0);
    }

    private static void aRegisterThatIsNoneIsRefused() {
        sentence("A register .. that is none is refused (false, or NONE), changing nothing");
        for (int none : NO_REGISTERS) {
            WordFields x = filled();
            due("set(" + none + ", 1, false)", x.set(none, 1, false), false);
            due("set(" + none + ", 0, true)", x.set(none, 0, true), false);
            due("byteOf(" + none + ", 0)", x.byteOf(none, 0), -1);
            due("byteOf(" + none + ", 1)", x.byteOf(none, 1), -1);
            due("byteOf(" + none + ", 5)", x.byteOf(none, 5), -1);
            due("load(" + none + ", 0, 5)", x.load(none, 0, 5), false);
            due("load(0, " + none + ", 5)", x.load(0, none, 5), false);
            due("load(15, " + none + ", 0)", x.load(15, none, 0), false);
            due("load(" + none + ", " + none + ", 5)", x.load(none, none, 5), false);
            due("store(" + none + ", 0, 5)", x.store(none, 0, 5), false);
            due("store(0, " + none + ", 5)", x.store(0, none, 5), false);
            due("store(15, " + none + ", 0)", x.store(15, none, 0), false);
            due("store(" + none + ", " + none + ", 5)", x.store(none, none, 5), false);
            due("turn(" + none + ")", x.turn(none), false);
            dueUnchanged(x);
        }
    }

    private static void aByteThatIsNoneIsRefused() {
        sentence("A .. byte .. that is none is refused (false, or NONE), changing nothing");
        WordFields x = filled();
        for (int none : NO_BYTES) {
            due("byteOf(0, " + none + ")", x.byteOf(0, none), -1);
            due("byteOf(15, " + none + ")", x.byteOf(15, none), -1);
        }
        dueUnchanged(x);
    }

    private static void aFieldThatIsNoneIsRefused() {
        sentence("A .. field that is none is refused (false, or NONE), changing nothing");
        for (int field = -70; field <= 330; field++) {
            if (!isListed(field)) {
                dueRefusedField(field);
            }
        }
        int[] farOnes = {LEAST, LEAST + 5, LEAST + 13, GREATEST, GREATEST - 2, GREATEST - 7, 1 << 16, (1 << 16) + 5};
        for (int field : farOnes) {
            dueRefusedField(field);
        }
    }

    private static void dueRefusedField(int field) {
        WordFields x = filled();
        due("load(0, 1, " + field + ")", x.load(0, 1, field), false);
        due("load(2, 2, " + field + ")", x.load(2, 2, field), false);
        due("store(0, 1, " + field + ")", x.store(0, 1, field), false);
        due("store(2, 2, " + field + ")", x.store(2, 2, field), false);
        dueUnchanged(x);
    }

    // Promise 1

    private static void allRegistersArePlusZeroAtFirst() {
        sentence("All registers are +0");
        WordFields x = new WordFields();
        for (int r = 0; r <= 15; r++) {
            due("value(" + r + ")", x.value(r), 0);
            for (int k = 0; k <= 5; k++) {
                due("byteOf(" + r + ", " + k + ")", x.byteOf(r, k), 0);
            }
        }
    }

    // Promise 2

    private static void setMinusWhereTheValueIsZero() {
        sentence("A register becomes the word of a value (minus: -0 where it is 0)");
        WordFields x = new WordFields();
        due("set(0, 0, true)", x.set(0, 0, true), true);
        due("value(0)", x.value(0), LEAST);
        due("set(0, 0, true) again", x.set(0, 0, true), true);
        due("value(0)", x.value(0), LEAST);
        due("set(0, 0, false)", x.set(0, 0, false), true);
        due("value(0)", x.value(0), 0);
    }

    private static void setMinusWhereTheValueIsNotZero() {
        sentence("A register becomes the word of a value (minus: -0 where it is 0, and only there)");
        WordFields x = new WordFields();
        int[] values = {1, -1, 1073741823, -1073741823};
        for (int value : values) {
            due("set(0, " + value + ", true)", x.set(0, value, true), true);
            due("value(0)", x.value(0), value);
        }
    }

    private static void setReplacesTheWholeWord() {
        sentence("A register becomes the word of a value");
        int[] values = {-1073741823, 1, 1073741823, -1, 1073741823, 0, -1073741823, 0, -1, 64};
        WordFields x = new WordFields();
        for (int value : values) {
            due("set(15, " + value + ", false)", x.set(15, value, false), true);
            due("value(15)", x.value(15), value);
        }
        x.set(15, 1073741823, false);
        x.set(15, 0, true);
        due("value(15), -0 after the greatest", x.value(15), LEAST);
        due("value(14)", x.value(14), 0);
    }

    private static void setOfASizeThatIsNoMagnitude() {
        sentence("false when its size is no magnitude");
        int[] values = {1073741824, -1073741824, 1073741825, -1073741825, GREATEST, LEAST + 1, 1610612736, -1610612736};
        WordFields x = filled();
        for (int value : values) {
            due("set(0, " + value + ", false)", x.set(0, value, false), false);
            due("set(0, " + value + ", true)", x.set(0, value, true), false);
            due("value(0)", x.value(0), filling(0));
        }
        dueUnchanged(x);
    }

    private static void setOfTheLeastInt() {
        sentence("false when its size is no magnitude (the least int has the size 2 to the power 31)");
        WordFields x = filled();
        due("set(0, the least int, false)", x.set(0, LEAST, false), false);
        due("set(0, the least int, true)", x.set(0, LEAST, true), false);
        dueUnchanged(x);
    }

    // Promise 3

    private static void valueAtBothEnds() {
        sentence("A register's value");
        int[] values = {1073741823, -1073741823, 1, -1, 0, 536870912, -536870912};
        WordFields x = new WordFields();
        for (int value : values) {
            x.set(0, value, false);
            due("value(0)", x.value(0), value);
        }
    }

    private static void valueOfMinusZero() {
        sentence("the least int for -0");
        WordFields x = new WordFields();
        x.set(0, 0, true);
        due("value of -0 by set", x.value(0), LEAST);
        x.turn(1);
        due("value of -0 by turn", x.value(1), LEAST);
        x.set(14, -1, false);
        x.load(2, 14, 4);
        due("value of -0 by load", x.value(2), LEAST);
        x.store(3, 14, 0);
        due("value of -0 by store", x.value(3), LEAST);
        x.store(14, 15, 13);
        due("value of -0 by a store of +0 without the sign", x.value(14), LEAST);
    }

    private static void valueOfNoRegister() {
        sentence("the greatest int when there is none such");
        WordFields x = filled();
        for (int none : NO_REGISTERS) {
            due("value(" + none + ")", x.value(none), 2147483647);
        }
        dueUnchanged(x);
    }

    // Promise 4

    private static void bytesOneToFive() {
        sentence("Byte k (1 .. 5) of a register");
        WordFields x = new WordFields();
        x.set(0, MINUS_12345, false);
        x.set(15, -MINUS_12345, false);
        for (int k = 1; k <= 5; k++) {
            due("byteOf(0, " + k + ")", x.byteOf(0, k), k);
            due("byteOf(15, " + k + ")", x.byteOf(15, k), k);
        }
    }

    private static void byteNoughtIsTheSign() {
        sentence("for 0 its sign: 1 for -");
        int[] values = {1, 1073741823, 0};
        WordFields x = new WordFields();
        for (int value : values) {
            x.set(0, value, false);
            due("byteOf(0, 0) of + " + value, x.byteOf(0, 0), 0);
            x.turn(0);
            due("byteOf(0, 0) of - " + value, x.byteOf(0, 0), 1);
        }
    }

    private static void byteOfNone() {
        sentence("NONE (of byteOf)");
        due("NONE", WordFields.NONE, -1);
        WordFields x = new WordFields();
        x.set(0, -1073741823, false);
        x.set(15, -1073741823, false);
        due("byteOf(0, -1)", x.byteOf(0, -1), WordFields.NONE);
        due("byteOf(15, 6)", x.byteOf(15, 6), WordFields.NONE);
        due("byteOf(-1, 0)", x.byteOf(-1, 0), WordFields.NONE);
        due("byteOf(16, 5)", x.byteOf(16, 5), WordFields.NONE);
        due("byteOf(-1, -1)", x.byteOf(-1, -1), WordFields.NONE);
        due("byteOf(16, 6)", x.byteOf(16, 6), WordFields.NONE);
    }

    // Promise 5

    private static void loadOfEveryField() {
        sentence("A register becomes a field of another one: its bytes to the right");
        for (int[] row : FIELDS) {
            WordFields x = filled();
            x.set(6, MINUS_12345, false);
            due("load(7, 6, " + row[0] + ")", x.load(7, 6, row[0]), true);
            due("value(7) after load of field " + row[0], x.value(7), row[1]);
            due("value(6), loaded from", x.value(6), MINUS_12345);
            due("value(8), beside it", x.value(8), filling(8));
        }
    }

    private static void loadMakesTheOtherBytesZero() {
        sentence("the others 0");
        for (int[] row : FIELDS) {
            WordFields x = new WordFields();
            x.set(0, -1073741823, false);
            due("load(0, 1, " + row[0] + ") of +0 onto a full word", x.load(0, 1, row[0]), true);
            due("value(0)", x.value(0), 0);
        }
        WordFields x = new WordFields();
        x.set(0, -1073741823, false);
        x.set(1, 1073741823, false);
        x.load(0, 1, 18);
        int[] due = {0, 0, 0, 0, 0, 63};
        for (int k = 0; k <= 5; k++) {
            due("byteOf(0, " + k + ") after load of (2:2)", x.byteOf(0, k), due[k]);
        }
    }

    private static void loadOfTheSign() {
        sentence("the sign if the field has it");
        int[] due = {0, 63, 4095, 262143, 16777215, 1073741823};
        for (int right = 0; right <= 5; right++) {
            WordFields x = new WordFields();
            x.set(1, -1073741823, false);
            x.load(0, 1, right);
            due("value(0) after load of (0:" + right + ") of the least word", x.value(0), right == 0 ? LEAST : -due[right]);
            x.turn(1);
            x.load(0, 1, right);
            due("value(0) after load of (0:" + right + ") of the greatest word", x.value(0), due[right]);
        }
        WordFields x = new WordFields();
        x.set(1, 0, true);
        x.load(0, 1, 5);
        due("value(0) after load of the whole of -0", x.value(0), LEAST);
    }

    private static void loadWithoutTheSign() {
        sentence("else +");
        for (int[] row : FIELDS) {
            if (row[0] >= 8) {
                WordFields x = new WordFields();
                x.set(0, -5, false);
                x.set(1, -1073741823, false);
                x.set(2, 0, true);
                x.load(0, 1, row[0]);
                due("the sign after load of " + row[0] + " of a minus word", x.byteOf(0, 0), 0);
                x.load(0, 2, row[0]);
                due("value(0) after load of " + row[0] + " of -0", x.value(0), 0);
            }
        }
    }

    private static void loadOfARegisterIntoItself() {
        sentence("A register becomes a field of another one (or of itself)");
        for (int[] row : FIELDS) {
            WordFields x = new WordFields();
            x.set(15, MINUS_12345, false);
            due("load(15, 15, " + row[0] + ")", x.load(15, 15, row[0]), true);
            due("value(15) after load of its own field " + row[0], x.value(15), row[1]);
        }
    }

    // Promise 6

    private static void storeIntoEveryField() {
        sentence("As many bytes as a field has, .. go into that field of a register");
        // What becomes of + (11, 12, 13, 14, 15), byte 0 being the sign, when - (1, 2, 3, 4, 5) is stored into a field.
        int[][] due = {
            {0, 1, 11, 12, 13, 14, 15}, {1, 1, 5, 12, 13, 14, 15}, {2, 1, 4, 5, 13, 14, 15},
            {3, 1, 3, 4, 5, 14, 15}, {4, 1, 2, 3, 4, 5, 15}, {5, 1, 1, 2, 3, 4, 5},
            {9, 0, 5, 12, 13, 14, 15}, {10, 0, 4, 5, 13, 14, 15}, {11, 0, 3, 4, 5, 14, 15},
            {12, 0, 2, 3, 4, 5, 15}, {13, 0, 1, 2, 3, 4, 5},
            {18, 0, 11, 5, 13, 14, 15}, {19, 0, 11, 4, 5, 14, 15}, {20, 0, 11, 3, 4, 5, 15}, {21, 0, 11, 2, 3, 4, 5},
            {27, 0, 11, 12, 5, 14, 15}, {28, 0, 11, 12, 4, 5, 15}, {29, 0, 11, 12, 3, 4, 5},
            {36, 0, 11, 12, 13, 5, 15}, {37, 0, 11, 12, 13, 4, 5},
            {45, 0, 11, 12, 13, 14, 5}
        };
        for (int[] row : due) {
            WordFields x = filled();
            x.set(6, MINUS_12345, false);
            x.set(7, bytes(11, 12, 13, 14, 15), false);
            due("store(7, 6, " + row[0] + ")", x.store(7, 6, row[0]), true);
            for (int k = 0; k <= 5; k++) {
                due("byteOf(7, " + k + ") after store into " + row[0], x.byteOf(7, k), row[k + 1]);
            }
            due("value(6), stored from", x.value(6), MINUS_12345);
            due("value(8), beside it", x.value(8), filling(8));
        }
    }

    private static void storeTakesFromTheRight() {
        sentence("from the right of another register");
        WordFields x = new WordFields();
        x.set(1, 1073741823, false);
        x.set(2, bytes(63, 63, 63, 63, 0), false);
        x.store(1, 2, 27);
        due("value(1), 0 stored into (3:3) of a full word", x.value(1), bytes(63, 63, 0, 63, 63));
        x.set(1, 0, false);
        x.set(2, 1073741823, false);
        x.store(1, 2, 27);
        due("value(1), 63 stored into (3:3) of an empty word", x.value(1), bytes(0, 0, 63, 0, 0));
        x.set(1, 0, false);
        x.store(1, 2, 9);
        due("value(1), 63 stored into (1:1) of an empty word", x.value(1), bytes(63, 0, 0, 0, 0));
    }

    private static void storeOfTheSign() {
        sentence("the sign only if the field has it (a field that has it)");
        for (int right = 0; right <= 5; right++) {
            WordFields x = new WordFields();
            x.set(1, -1073741823, false);
            x.store(0, 1, right);
            due("the sign of + after store of - into (0:" + right + ")", x.byteOf(0, 0), 1);
            x.turn(1);
            x.store(0, 1, right);
            due("the sign of - after store of + into (0:" + right + ")", x.byteOf(0, 0), 0);
            x.set(2, 0, true);
            x.store(0, 2, right);
            due("the sign of + after store of -0 into (0:" + right + ")", x.byteOf(0, 0), 1);
        }
    }

    private static void storeWithoutTheSign() {
        sentence("the sign only if the field has it (a field that has it not)");
        for (int[] row : FIELDS) {
            if (row[0] >= 8) {
                WordFields x = new WordFields();
                x.set(0, 0, true);
                x.set(1, 1073741823, false);
                x.store(0, 1, row[0]);
                due("the sign of - after store of + into " + row[0], x.byteOf(0, 0), 1);
                x.turn(0);
                x.turn(1);
                x.store(0, 1, row[0]);
                due("the sign of + after store of - into " + row[0], x.byteOf(0, 0), 0);
            }
        }
    }

    private static void storeOfTheSignAlone() {
        sentence("As many bytes as a field has ((0:0) has no byte but the sign)");
        WordFields x = new WordFields();
        x.set(0, 1073741823, false);
        x.set(1, 0, true);
        due("store(0, 1, (0:0))", x.store(0, 1, 0), true);
        due("value(0)", x.value(0), -1073741823);
        x.set(1, 1073741823, false);
        x.set(0, 0, true);
        due("store(0, 1, (0:0))", x.store(0, 1, 0), true);
        due("value(0)", x.value(0), 0);
    }

    private static void storeOfARegisterIntoItself() {
        sentence("from the right of another register (or of itself)");
        int[][] due = {
            {0, 1, 2, 3, 4, 5}, {1, 5, 2, 3, 4, 5}, {2, 4, 5, 3, 4, 5}, {4, 2, 3, 4, 5, 5}, {5, 1, 2, 3, 4, 5},
            {9, 5, 2, 3, 4, 5}, {12, 2, 3, 4, 5, 5}, {13, 1, 2, 3, 4, 5}, {19, 1, 4, 5, 4, 5}, {20, 1, 3, 4, 5, 5},
            {36, 1, 2, 3, 5, 5}, {45, 1, 2, 3, 4, 5}
        };
        for (int[] row : due) {
            WordFields x = new WordFields();
            x.set(15, MINUS_12345, false);
            due("store(15, 15, " + row[0] + ")", x.store(15, 15, row[0]), true);
            due("value(15)", x.value(15), -bytes(row[1], row[2], row[3], row[4], row[5]));
        }
    }

    // Promise 7

    private static void turnOfZeros() {
        sentence("The other sign (of +0 and of -0)");
        WordFields x = new WordFields();
        due("turn(0)", x.turn(0), true);
        due("value(0)", x.value(0), LEAST);
        due("turn(0) again", x.turn(0), true);
        due("value(0)", x.value(0), 0);
    }

    private static void turnAtBothEnds() {
        sentence("The other sign");
        int[] values = {1073741823, -1073741823, 1, -1};
        WordFields x = filled();
        for (int value : values) {
            x.set(15, value, false);
            due("turn(15)", x.turn(15), true);
            due("value(15)", x.value(15), -value);
            due("turn(15) again", x.turn(15), true);
            due("value(15)", x.value(15), value);
        }
        due("value(14), beside it", x.value(14), filling(14));
    }

    private static void turnOfNoRegister() {
        sentence("A register .. that is none is refused (turn)");
        WordFields x = filled();
        for (int none : NO_REGISTERS) {
            due("turn(" + none + ")", x.turn(none), false);
        }
        dueUnchanged(x);
    }

    // Promise 8

    private static void compareAsNumbers() {
        sentence("Which of a field of two registers is greater, as numbers: -1, 0, 1");
        int[] upwards = {-1073741823, -1073741822, -64, -1, 0, 1, 63, 1073741822, 1073741823};
        for (int i = 0; i < upwards.length; i++) {
            WordFields x = new WordFields();
            x.set(0, upwards[i], false);
            for (int j = 0; j < upwards.length; j++) {
                x.set(15, upwards[j], false);
                int want = i < j ? -1 : i == j ? 0 : 1;
                due("compare of " + upwards[i] + " and " + upwards[j], x.compare(0, 15, 5), want);
            }
        }
    }

    private static void compareOfFieldsWithoutTheSign() {
        sentence("Which of a field of two registers is greater (a field without the sign)");
        WordFields x = new WordFields();
        x.set(0, -1073741823, false);
        x.set(15, 1073741823, false);
        due("compare(0, 15, (0:5))", x.compare(0, 15, 5), -1);
        due("compare(0, 15, (1:5))", x.compare(0, 15, 13), 0);
        x.set(15, 1073741822, false);
        due("compare(0, 15, (1:5))", x.compare(0, 15, 13), 1);
        due("compare(15, 0, (5:5))", x.compare(15, 0, 45), -1);
        due("compare(0, 15, (1:4))", x.compare(0, 15, 12), 0);
        due("compare(0, 15, (0:4))", x.compare(0, 15, 4), -1);
    }

    private static void compareOfZeros() {
        sentence("as numbers (+0 and -0 are one number)");
        WordFields x = new WordFields();
        x.set(1, 0, true);
        x.set(2, -1, false);
        x.set(3, 1, false);
        for (int[] row : FIELDS) {
            due("compare of +0 and -0 in " + row[0], x.compare(0, 1, row[0]), 0);
            due("compare of -0 and +0 in " + row[0], x.compare(1, 0, row[0]), 0);
        }
        for (int right = 0; right <= 4; right++) {
            due("compare of -1 and 1 in (0:" + right + "), which has +0 and -0", x.compare(2, 3, right), 0);
            due("compare of 1 and -1 in (0:" + right + "), which has +0 and -0", x.compare(3, 2, right), 0);
        }
        due("compare of -1 and -0", x.compare(2, 1, 5), -1);
        due("compare of 1 and -0", x.compare(3, 1, 5), 1);
    }

    private static void compareOfSomethingThatIsNone() {
        sentence("-2 when something is none");
        WordFields x = filled();
        for (int none : NO_REGISTERS) {
            due("compare(" + none + ", 0, 5)", x.compare(none, 0, 5), -2);
            due("compare(15, " + none + ", 5)", x.compare(15, none, 5), -2);
            due("compare(" + none + ", " + none + ", 0)", x.compare(none, none, 0), -2);
            due("compare(" + none + ", " + none + ", 46)", x.compare(none, none, 46), -2);
        }
        dueUnchanged(x);
        for (int field = -70; field <= 330; field++) {
            WordFields y = filled();
            due("whether compare(1, 0, " + field + ") is -2", y.compare(1, 0, field) == -2, !isListed(field));
            due("whether compare(2, 2, " + field + ") is -2", y.compare(2, 2, field) == -2, !isListed(field));
            dueUnchanged(y);
        }
        due("compare(0, 1, the least int)", x.compare(0, 1, LEAST), -2);
        due("compare(0, 1, the greatest int)", x.compare(0, 1, GREATEST), -2);
    }

    // Promise 9

    private static void everyFieldAndNoOther() {
        sentence("Whether a number is a field");
        WordFields x = new WordFields();
        for (int field = -128; field <= 255; field++) {
            due("isField(" + field + ")", x.isField(field), isListed(field));
        }
    }

    private static void numbersFarFromFields() {
        sentence("Whether a number is a field (of numbers that would wrap around)");
        WordFields x = new WordFields();
        int[] steps = {1 << 8, 1 << 16, 1 << 24, 1 << 30, LEAST};
        for (int step : steps) {
            for (int[] row : FIELDS) {
                due("isField(" + (row[0] + step) + ")", x.isField(row[0] + step), false);
            }
        }
        for (int[] row : FIELDS) {
            due("isField(" + (row[0] - 64) + ")", x.isField(row[0] - 64), false);
            due("isField(" + (GREATEST - row[0]) + ")", x.isField(GREATEST - row[0]), false);
        }
    }

    // Promise 10

    private static final String LETTERS_0_TO_55 = " ABCDEFGHI" + "~JKLMNOPQR" + "[#STUVWXYZ" + "0123456789" + ".,()+-*/=$" + "<>@;:'";

    private static void lettersOfNoughtTo55() {
        sentence("The letter of a byte 0 .. 63: those of 0 to 55 are, in this order: ..");
        due("the number of letters", LETTERS_0_TO_55.length(), 56);
        WordFields x = new WordFields();
        for (int b = 0; b <= 55; b++) {
            due("letter(" + b + ")", x.letter(b), LETTERS_0_TO_55.charAt(b));
        }
    }

    private static void lettersOfOtherBytes() {
        sentence("of others ?");
        WordFields x = new WordFields();
        due("letter(55)", x.letter(55), 39);
        for (int b = 56; b <= 63; b++) {
            due("letter(" + b + ")", x.letter(b), 63);
        }
        due("letter(64)", x.letter(64), -1);
    }

    private static void letterOfOtherNumbers() {
        sentence("NONE for other numbers (of letter)");
        WordFields x = new WordFields();
        int[] others = {-1, -2, -56, -64, 64, 65, 119, 127, 128, 255, 256, 65536, LEAST, LEAST + 1, GREATEST};
        for (int b : others) {
            due("letter(" + b + ")", x.letter(b), WordFields.NONE);
        }
    }

    // Promise 11

    private static void codeOfEveryLetter() {
        sentence("The byte of a letter 0 .. 255");
        WordFields x = new WordFields();
        for (int b = 0; b <= 55; b++) {
            due("code of " + LETTERS_0_TO_55.charAt(b), x.code(LETTERS_0_TO_55.charAt(b)), b);
            due("code of the letter of " + b, x.code(x.letter(b)), b);
        }
    }

    private static void codeOfSmallLetters() {
        sentence("small letters as great ones");
        WordFields x = new WordFields();
        for (char small = 'a'; small <= 'z'; small++) {
            due("code of " + small, x.code(small), LETTERS_0_TO_55.indexOf(Character.toUpperCase(small)));
        }
        due("code of a", x.code('a'), 1);
        due("code of i", x.code('i'), 9);
        due("code of j", x.code('j'), 11);
        due("code of r", x.code('r'), 19);
        due("code of s", x.code('s'), 22);
        due("code of z", x.code('z'), 29);
        // The neighbours of the small letters stand 32 above @ and [, which are letters of their own.
        due("code of `", x.code('`'), 0);
        due("code of {", x.code('{'), 0);
        due("code of @", x.code('@'), 52);
        due("code of [", x.code('['), 20);
    }

    private static void codeOfWhatIsNoLetter() {
        sentence("0 of what is none of these");
        WordFields x = new WordFields();
        for (int letter = 0; letter <= 255; letter++) {
            boolean small = letter >= 'a' && letter <= 'z';
            if (!small && LETTERS_0_TO_55.indexOf(letter) < 0) {
                due("code(" + letter + ")", x.code(letter), 0);
            }
        }
        due("code of ?, which stands for bytes without a letter", x.code('?'), 0);
    }

    private static void codeAtTheEndsOfNoughtTo255() {
        sentence("a letter 0 .. 255 (both ends)");
        WordFields x = new WordFields();
        due("code(-1)", x.code(-1), -1);
        due("code(0)", x.code(0), 0);
        due("code(255)", x.code(255), 0);
        due("code(256)", x.code(256), -1);
    }

    private static void codeOfOtherNumbers() {
        sentence("NONE for other numbers (of code)");
        WordFields x = new WordFields();
        int[] others = {-1, -2, -32, -191, -255, -256, 256, 257, 256 + 'A', 65536, 65536 + 'A', LEAST, LEAST + 'A', GREATEST};
        for (int letter : others) {
            due("code(" + letter + ")", x.code(letter), WordFields.NONE);
        }
    }

    // What the tests share

    private static boolean isListed(int field) {
        for (int[] row : FIELDS) {
            if (row[0] == field) {
                return true;
            }
        }
        return false;
    }

    // Signs and bytes that differ from register to register, so that a change of any of them shows.
    private static WordFields filled() {
        WordFields x = new WordFields();
        for (int r = 0; r < 16; r++) {
            x.set(r, filling(r), false);
        }
        return x;
    }

    private static int filling(int r) {
        int size = bytes(63 - r, 31 + r, 1 + r, 40 - r, 17 + r);
        return r % 2 == 0 ? -size : size;
    }

    private static void dueUnchanged(WordFields x) {
        for (int r = 0; r < 16; r++) {
            due("value(" + r + ") after calls that change nothing", x.value(r), filling(r));
        }
    }

    private static int bytes(int b1, int b2, int b3, int b4, int b5) {
        return (((b1 * 64 + b2) * 64 + b3) * 64 + b4) * 64 + b5;
    }

    private static void sentence(String text) {
        sentence = text;
        sentences++;
    }

    private static void due(String call, boolean got, boolean want) {
        due(call, got ? 1 : 0, want ? 1 : 0);
    }

    private static void due(String call, int got, int want) {
        if (got != want) {
            wrong++;
            System.out.println("\"" + sentence + "\": " + call + " answered " + got + ", due is " + want);
        }
    }
}
