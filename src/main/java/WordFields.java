/** Sixteen registers, each a word of a sign and five bytes of six bits, and the fields of those words. */
public final class WordFields {
    public static final int NONE = -1;

    private static final int REGISTERS = 16;
    private static final int LAST_BYTE = 5;
    private static final int BYTE_BITS = 6;
    private static final int BYTE_MASK = 63;

    // The sign stands just above the 30 bits of the magnitude, so that +0 and -0 differ.
    private static final int MINUS = 1 << 30;
    private static final int MAGNITUDE_MASK = MINUS - 1;

    // The least and the greatest int, written out: the library that LANGUAGE.md lists has no constants of Integer.
    private static final int MINUS_ZERO_VALUE = -2147483648;
    private static final int NO_VALUE = 2147483647;
    private static final int NOT_COMPARED = -2;

    private static final String LETTERS = " ABCDEFGHI~JKLMNOPQR[#STUVWXYZ0123456789.,()+-*/=$<>@;:'";
    private static final char OTHER_LETTER = '?';
    private static final int LAST_LETTER = 255;

    private final int[] words;

    public WordFields() {
        words = new int[REGISTERS];
    }

    public boolean set(int r, int value, boolean minus) {
        // Both ends are tested before the sign is dropped: the least int has no positive counterpart.
        if (!isRegister(r) || value > MAGNITUDE_MASK || value < -MAGNITUDE_MASK) {
            return false;
        }
        boolean negative = value < 0 || (value == 0 && minus);
        words[r] = (value < 0 ? -value : value) | (negative ? MINUS : 0);
        return true;
    }

    public int value(int r) {
        if (!isRegister(r)) {
            return NO_VALUE;
        }
        int word = words[r];
        return word == MINUS ? MINUS_ZERO_VALUE : number(word);
    }

    public int byteOf(int r, int k) {
        if (!isRegister(r) || k < 0 || k > LAST_BYTE) {
            return NONE;
        }
        int word = words[r];
        if (k == 0) {
            return isMinus(word) ? 1 : 0;
        }
        return (word >> bitsRightOf(k)) & BYTE_MASK;
    }

    public boolean load(int r, int from, int field) {
        if (!isRegister(r) || !isRegister(from) || !isField(field)) {
            return false;
        }
        words[r] = fieldOf(words[from], field);
        return true;
    }

    public boolean store(int r, int from, int field) {
        if (!isRegister(r) || !isRegister(from) || !isField(field)) {
            return false;
        }
        int source = words[from];
        int bytes = (source & rightMask(field)) << bitsRightOf(lastByte(field));
        int replaced = (rightMask(field) << bitsRightOf(lastByte(field))) | signMask(field);
        words[r] = (words[r] & ~replaced) | bytes | (source & signMask(field));
        return true;
    }

    public boolean turn(int r) {
        if (!isRegister(r)) {
            return false;
        }
        words[r] ^= MINUS;
        return true;
    }

    public int compare(int r, int other, int field) {
        if (!isRegister(r) || !isRegister(other) || !isField(field)) {
            return NOT_COMPARED;
        }
        int one = number(fieldOf(words[r], field));
        int two = number(fieldOf(words[other], field));
        return one < two ? -1 : one > two ? 1 : 0;
    }

    public boolean isField(int field) {
        return field >= 0 && firstByte(field) <= lastByte(field) && lastByte(field) <= LAST_BYTE;
    }

    public int letter(int b) {
        if (b < 0 || b > BYTE_MASK) {
            return NONE;
        }
        return b < LETTERS.length() ? LETTERS.charAt(b) : OTHER_LETTER;
    }

    public int code(int letter) {
        if (letter < 0 || letter > LAST_LETTER) {
            return NONE;
        }
        int b = LETTERS.indexOf((char) greatLetter(letter));
        return b < 0 ? 0 : b;
    }

    private static boolean isRegister(int r) {
        return r >= 0 && r < REGISTERS;
    }

    private static boolean isMinus(int word) {
        return (word & MINUS) != 0;
    }

    /** Both zeros are the number 0. */
    private static int number(int word) {
        int magnitude = word & MAGNITUDE_MASK;
        return isMinus(word) ? -magnitude : magnitude;
    }

    private static int firstByte(int field) {
        return field >> 3;
    }

    private static int lastByte(int field) {
        return field & 7;
    }

    private static int bitsRightOf(int k) {
        return BYTE_BITS * (LAST_BYTE - k);
    }

    /** As many bytes as the field has, at the right of a word; the sign is none of them, so (0:0) has no byte. */
    private static int rightMask(int field) {
        int count = lastByte(field) - Math.max(firstByte(field), 1) + 1;
        return (1 << (BYTE_BITS * count)) - 1;
    }

    private static int signMask(int field) {
        return firstByte(field) == 0 ? MINUS : 0;
    }

    private static int fieldOf(int word, int field) {
        int bytes = (word >> bitsRightOf(lastByte(field))) & rightMask(field);
        return bytes | (word & signMask(field));
    }

    private static int greatLetter(int letter) {
        return letter >= 'a' && letter <= 'z' ? letter - 'a' + 'A' : letter;
    }
}
