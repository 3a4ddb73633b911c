/** The 16-bit forms of a processor's instructions, and a reader that takes them half by half. */
public final class ShortForms {
    public static final int NONE = -1;

    private static final int LARGEST_HALF = 65535;

    // No form stands for 0, so 0 can say that a half stands for nothing.
    private static final int NO_WORD = 0;

    // A kind is all halves that share h[15:12] and h[1:0]. Within one kind no word is stood for twice,
    // so that shorten and halves need to look at one half of each kind only.
    private static final int KINDS = 64;

    // The bits of a half that its kind leaves open.
    private static final int OPEN_BITS = 0x0FFC;

    // The immediates as the document tells them, by threes: the place in the immediate, then the highest
    // and the lowest bit of the half. One row serves both directions, so that they cannot drift apart.
    private static final int[] ADD_TO_STACK = {6, 10, 7, 4, 12, 11, 3, 5, 5, 2, 6, 6};
    private static final int[] EIGHT_BYTES = {6, 6, 5, 3, 12, 10};
    private static final int[] FOUR_BYTES = {6, 5, 5, 3, 12, 10, 2, 6, 6};
    private static final int[] MOVE_STACK = {9, 12, 12, 7, 4, 3, 6, 5, 5, 5, 2, 2, 4, 6, 6};
    private static final int[] JUMP = {11, 12, 12, 10, 8, 8, 8, 10, 9, 7, 6, 6, 6, 7, 7, 5, 2, 2, 4, 11, 11, 1, 5, 3};
    private static final int[] BRANCH = {8, 12, 12, 6, 6, 5, 5, 2, 2, 3, 11, 10, 1, 4, 3};
    private static final int[] LOAD_EIGHT_FROM_STACK = {6, 4, 2, 5, 12, 12, 3, 6, 5};
    private static final int[] LOAD_FOUR_FROM_STACK = {6, 3, 2, 5, 12, 12, 2, 6, 4};
    private static final int[] STORE_EIGHT_TO_STACK = {6, 9, 7, 3, 12, 10};
    private static final int[] STORE_FOUR_TO_STACK = {6, 8, 7, 2, 12, 9};

    private boolean waiting;
    private int waitingHalf;
    private int latestWord;
    private int latestLength;
    private int wholeCount;

    public ShortForms() {
        waiting = false;
        waitingHalf = 0;
        latestWord = NO_WORD;
        latestLength = 0;
        wholeCount = 0;
    }

    public int expand(int half) throws IllegalArgumentException {
        if (!isHalf(half)) {
            throw new IllegalArgumentException("a half is 0 .. 65535");
        }
        return wordFor(half);
    }

    public int shorten(int word) {
        int least = NONE;
        for (int kind = 0; kind < KINDS; kind++) {
            int half = halfOfKind(kind, word);
            if (half != NONE && (least == NONE || half < least)) {
                least = half;
            }
        }
        return least;
    }

    public int halves(int word) {
        int count = 0;
        for (int kind = 0; kind < KINDS; kind++) {
            if (halfOfKind(kind, word) != NONE) {
                count++;
            }
        }
        return count;
    }

    public boolean take(int half) throws IllegalArgumentException {
        if (!isHalf(half)) {
            throw new IllegalArgumentException("a half is 0 .. 65535");
        }
        if (waiting) {
            waiting = false;
            keepWhole(half << 16 | waitingHalf, 4);
            return true;
        }
        if (bits(half, 1, 0) == 3) {
            waiting = true;
            waitingHalf = half;
            return false;
        }
        keepWhole(wordFor(half), 2);
        return true;
    }

    public int word() {
        return latestWord;
    }

    public int length() {
        return latestLength;
    }

    public int whole() {
        return wholeCount;
    }

    public boolean drop() {
        boolean dropped = waiting;
        waiting = false;
        return dropped;
    }

    private void keepWhole(int instruction, int bytes) {
        latestWord = instruction;
        latestLength = bytes;
        wholeCount++;
    }

    private static boolean isHalf(int number) {
        return number >= 0 && number <= LARGEST_HALF;
    }

    // From a half to its word.

    private static int wordFor(int h) {
        switch (bits(h, 1, 0)) {
            case 0:
                return wordForLow0(h);
            case 1:
                return wordForLow1(h);
            case 2:
                return wordForLow2(h);
            default:
                return NO_WORD;
        }
    }

    private static int wordForLow0(int h) {
        int p = 8 + bits(h, 9, 7);
        int s = 8 + bits(h, 4, 2);
        switch (bits(h, 15, 13)) {
            case 0:
                return wordForAddToStack(s, gather(h, ADD_TO_STACK));
            case 1:
                return formI(7, s, 3, p, gather(h, EIGHT_BYTES));
            case 2:
                return formI(3, s, 2, p, gather(h, FOUR_BYTES));
            case 3:
                return formI(3, s, 3, p, gather(h, EIGHT_BYTES));
            case 5:
                return formS(39, 3, p, s, gather(h, EIGHT_BYTES));
            case 6:
                return formS(35, 2, p, s, gather(h, FOUR_BYTES));
            case 7:
                return formS(35, 3, p, s, gather(h, EIGHT_BYTES));
            default:
                return NO_WORD;
        }
    }

    private static int wordForAddToStack(int s, int i) {
        return i == 0 ? NO_WORD : formI(19, s, 0, 2, i);
    }

    private static int wordForLow1(int h) {
        int r = bits(h, 11, 7);
        int p = 8 + bits(h, 9, 7);
        int n = signedImmediate(h);
        switch (bits(h, 15, 13)) {
            case 0:
                return formI(19, r, 0, r, n);
            case 1:
                return r == 0 ? NO_WORD : formI(27, r, 0, r, n);
            case 2:
                return formI(19, r, 0, 0, n);
            case 3:
                return r == 2 ? wordForMoveStack(withSign(gather(h, MOVE_STACK), 9)) : wordForUpper(r, n);
            case 4:
                return wordForArithmetic(h);
            case 5:
                return formJ(0, withSign(gather(h, JUMP), 11));
            case 6:
                return formB(0, p, 0, withSign(gather(h, BRANCH), 8));
            default:
                return formB(1, p, 0, withSign(gather(h, BRANCH), 8));
        }
    }

    private static int wordForMoveStack(int i) {
        return i == 0 ? NO_WORD : formI(19, 2, 0, 2, i);
    }

    private static int wordForUpper(int r, int n) {
        return n == 0 ? NO_WORD : formU(55, r, n * 4096);
    }

    private static int wordForArithmetic(int h) {
        int p = 8 + bits(h, 9, 7);
        switch (bits(h, 11, 10)) {
            case 0:
                return formI(19, p, 5, p, unsignedImmediate(h));
            case 1:
                return formI(19, p, 5, p, unsignedImmediate(h) + 1024);
            case 2:
                return formI(19, p, 7, p, signedImmediate(h));
            default:
                return wordForTwoRegisters(h, p);
        }
    }

    private static int wordForTwoRegisters(int h, int p) {
        int s = 8 + bits(h, 4, 2);
        switch (bits(h, 12, 12) << 2 | bits(h, 6, 5)) {
            case 0:
                return formR(51, p, 0, p, s, 32);
            case 1:
                return formR(51, p, 4, p, s, 0);
            case 2:
                return formR(51, p, 6, p, s, 0);
            case 3:
                return formR(51, p, 7, p, s, 0);
            case 4:
                return formR(59, p, 0, p, s, 32);
            case 5:
                return formR(59, p, 0, p, s, 0);
            default:
                return NO_WORD;
        }
    }

    private static int wordForLow2(int h) {
        int r = bits(h, 11, 7);
        int q = bits(h, 6, 2);
        switch (bits(h, 15, 13)) {
            case 0:
                return formI(19, r, 1, r, unsignedImmediate(h));
            case 1:
                return formI(7, r, 3, 2, gather(h, LOAD_EIGHT_FROM_STACK));
            case 2:
                return r == 0 ? NO_WORD : formI(3, r, 2, 2, gather(h, LOAD_FOUR_FROM_STACK));
            case 3:
                return r == 0 ? NO_WORD : formI(3, r, 3, 2, gather(h, LOAD_EIGHT_FROM_STACK));
            case 4:
                return bits(h, 12, 12) == 0 ? wordForGoOrCopy(r, q) : wordForCallOrAdd(r, q);
            case 5:
                return formS(39, 3, 2, q, gather(h, STORE_EIGHT_TO_STACK));
            case 6:
                return formS(35, 2, 2, q, gather(h, STORE_FOUR_TO_STACK));
            default:
                return formS(35, 3, 2, q, gather(h, STORE_EIGHT_TO_STACK));
        }
    }

    private static int wordForGoOrCopy(int r, int q) {
        if (q != 0) {
            return formR(51, r, 0, 0, q, 0);
        }
        return r == 0 ? NO_WORD : formI(103, 0, 0, r, 0);
    }

    private static int wordForCallOrAdd(int r, int q) {
        if (q != 0) {
            return formR(51, r, 0, r, q, 0);
        }
        return r == 0 ? formI(115, 0, 0, 0, 1) : formI(103, 1, 0, r, 0);
    }

    // From a word back to a half.

    private static int halfOfKind(int kind, int word) {
        if (word == NO_WORD) {
            return NONE;
        }
        int top = kind >> 2;
        int low = kind & 3;
        int half = top << 12 | guessOpenBits(low, top >> 1, word) & OPEN_BITS | low;
        // The guess is right if any half of this kind is; whether one is, the way forward alone decides.
        return wordFor(half) == word ? half : NONE;
    }

    private static int guessOpenBits(int low, int line, int word) {
        switch (low) {
            case 0:
                return guessForLow0(line, word);
            case 1:
                return guessForLow1(line, word);
            case 2:
                return guessForLow2(line, word);
            default:
                return 0;
        }
    }

    private static int guessForLow0(int line, int word) {
        int p = bits(fieldA(word), 2, 0) << 7;
        int loaded = bits(fieldD(word), 2, 0) << 2;
        int stored = bits(fieldB(word), 2, 0) << 2;
        switch (line) {
            case 0:
                return scatter(immediateOfI(word), ADD_TO_STACK) | loaded;
            case 1:
            case 3:
                return scatter(immediateOfI(word), EIGHT_BYTES) | p | loaded;
            case 2:
                return scatter(immediateOfI(word), FOUR_BYTES) | p | loaded;
            case 6:
                return scatter(immediateOfS(word), FOUR_BYTES) | p | stored;
            default:
                return scatter(immediateOfS(word), EIGHT_BYTES) | p | stored;
        }
    }

    private static int guessForLow1(int line, int word) {
        int r = fieldD(word) << 7;
        switch (line) {
            case 3:
                return fieldD(word) == 2
                        ? r | scatter(immediateOfI(word), MOVE_STACK)
                        : r | bits(word, 16, 12) << 2;
            case 4:
                return guessForArithmetic(word);
            case 5:
                return scatter(immediateOfJ(word), JUMP);
            case 6:
            case 7:
                return scatter(immediateOfB(word), BRANCH) | bits(fieldA(word), 2, 0) << 7;
            default:
                return r | fieldB(word) << 2;
        }
    }

    private static int guessForArithmetic(int word) {
        int p = bits(fieldD(word), 2, 0) << 7;
        int q = fieldB(word) << 2;
        if (fieldC(word) != 19) {
            int s = bits(fieldB(word), 2, 0) << 2;
            int operation = guessOperation(fieldC(word), fieldF(word), fieldG(word));
            return 3 << 10 | p | operation << 5 | s;
        }
        if (fieldF(word) == 7) {
            return 2 << 10 | p | q;
        }
        return bits(word, 30, 30) << 10 | p | q;
    }

    private static int guessOperation(int c, int f, int g) {
        switch (f) {
            case 4:
                return 1;
            case 6:
                return 2;
            case 7:
                return 3;
            default:
                return c == 59 && g == 0 ? 1 : 0;
        }
    }

    private static int guessForLow2(int line, int word) {
        int r = fieldD(word) << 7;
        int q = fieldB(word) << 2;
        switch (line) {
            case 1:
            case 3:
                return r | scatter(immediateOfI(word), LOAD_EIGHT_FROM_STACK);
            case 2:
                return r | scatter(immediateOfI(word), LOAD_FOUR_FROM_STACK);
            case 4:
                return fieldC(word) == 51 ? r | q : fieldA(word) << 7;
            case 5:
            case 7:
                return q | scatter(immediateOfS(word), STORE_EIGHT_TO_STACK);
            case 6:
                return q | scatter(immediateOfS(word), STORE_FOUR_TO_STACK);
            default:
                return r | q;
        }
    }

    // The immediates of a half.

    private static int signedImmediate(int h) {
        return bits(h, 6, 2) - (bits(h, 12, 12) << 5);
    }

    private static int unsignedImmediate(int h) {
        return bits(h, 6, 2) + (bits(h, 12, 12) << 5);
    }

    private static int withSign(int number, int signBit) {
        int unused = 31 - signBit;
        return number << unused >> unused;
    }

    private static int gather(int h, int[] row) {
        int immediate = 0;
        for (int k = 0; k + 2 < row.length; k += 3) {
            immediate |= bits(h, row[k + 1], row[k + 2]) << row[k];
        }
        return immediate;
    }

    private static int scatter(int immediate, int[] row) {
        int h = 0;
        for (int k = 0; k + 2 < row.length; k += 3) {
            int highest = row[k] + row[k + 1] - row[k + 2];
            h |= bits(immediate, highest, row[k]) << row[k + 2];
        }
        return h;
    }

    // The fields of a word.

    private static int formI(int c, int d, int f, int a, int i) {
        return c | d << 7 | f << 12 | a << 15 | i << 20;
    }

    private static int formR(int c, int d, int f, int a, int b, int g) {
        return c | d << 7 | f << 12 | a << 15 | b << 20 | g << 25;
    }

    private static int formS(int c, int f, int a, int b, int i) {
        return formR(c, bits(i, 4, 0), f, a, b, bits(i, 11, 5));
    }

    private static int formU(int c, int d, int i) {
        return c | d << 7 | bits(i, 31, 12) << 12;
    }

    private static int formB(int f, int a, int b, int i) {
        int d = bits(i, 4, 1) << 1 | bits(i, 11, 11);
        int g = bits(i, 12, 12) << 6 | bits(i, 10, 5);
        return formR(99, d, f, a, b, g);
    }

    private static int formJ(int d, int i) {
        int upper = bits(i, 20, 20) << 31 | bits(i, 10, 1) << 21 | bits(i, 11, 11) << 20;
        return 111 | d << 7 | bits(i, 19, 12) << 12 | upper;
    }

    private static int fieldC(int word) {
        return bits(word, 6, 0);
    }

    private static int fieldD(int word) {
        return bits(word, 11, 7);
    }

    private static int fieldF(int word) {
        return bits(word, 14, 12);
    }

    private static int fieldA(int word) {
        return bits(word, 19, 15);
    }

    private static int fieldB(int word) {
        return bits(word, 24, 20);
    }

    private static int fieldG(int word) {
        return bits(word, 31, 25);
    }

    private static int immediateOfI(int word) {
        return bits(word, 31, 20);
    }

    private static int immediateOfS(int word) {
        return fieldG(word) << 5 | fieldD(word);
    }

    private static int immediateOfB(int word) {
        int upper = bits(word, 31, 31) << 12 | bits(word, 7, 7) << 11;
        return upper | bits(word, 30, 25) << 5 | bits(word, 11, 8) << 1;
    }

    private static int immediateOfJ(int word) {
        int upper = bits(word, 31, 31) << 20 | bits(word, 19, 12) << 12;
        return upper | bits(word, 20, 20) << 11 | bits(word, 30, 21) << 1;
    }

    private static int bits(int number, int highest, int lowest) {
        return number >>> lowest & (1 << highest - lowest + 1) - 1;
    }
}
