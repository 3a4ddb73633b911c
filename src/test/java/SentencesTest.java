/** Promises 1 to 9: each sentence that names a boundary case, in the document's order. */
public final class SentencesTest {
    private static final Check CHECK = new Check();
    private static final Fresh FRESH = new Fresh();

    // Among them some whose lowest 16 bits are a half that stands for a word, and some that end in 3.
    private static final int[] NO_HALVES = {
        -1, -2, -3, -32768, -65533, -65535, -65536, 65536, 65537, 65538, 65539, 131071, 1 << 30,
        Integer.MAX_VALUE, Integer.MIN_VALUE, Integer.MIN_VALUE + 1, Integer.MIN_VALUE + 3};

    public static void main(String[] args) {
        nothingWasTaken();
        expandIsZeroWhenThereIsNone();
        expandRefusesWhatIsNoHalf();
        shortenGivesTheLeastHalf();
        shortenGivesNone();
        zeroIsNeverStoodFor();
        howManyHalvesStandForAWord();
        takeIsTrueWhenAnInstructionIsWhole();
        lowestBits3NeedASecondHalf();
        theSecondHalfIsAnyOne();
        takeRefusesWhatIsNoHalf();
        theWordOfTheLatestWholeInstruction();
        theWordForWhichItStands();
        wordIsZeroWhenThereIsNone();
        wordIsZeroAtFirst();
        howManyBytesItHas();
        lengthIsZeroAtFirst();
        howManyWholeInstructionsThereWere();
        aWaitingHalfIsForgotten();
        dropTellsWhetherThereWasOne();
        CHECK.end();
    }

    private static void nothingWasTaken() {
        CHECK.sentence("1: Nothing was taken");
        ShortForms used = new ShortForms();
        used.take(1);
        used.take(3);
        state("a new object beside a used one", new ShortForms(), 0, 0, 0);
        CHECK.same("new: drop()", new ShortForms().drop(), false);
        CHECK.same("new: take(1) is no second half", new ShortForms().take(1), true);
        CHECK.same("new: take(3) is no second half", new ShortForms().take(3), false);
        state("the used object", used, 19, 2, 1);
        CHECK.same("the used object: drop()", used.drop(), true);
    }

    private static void expandIsZeroWhenThereIsNone() {
        CHECK.sentence("2: 0 when there is none");
        CHECK.same("expand(0)", FRESH.next().expand(0), 0);
        CHECK.same("expand(3)", FRESH.next().expand(3), 0);
        CHECK.same("expand(32768)", FRESH.next().expand(32768), 0);
        CHECK.same("expand(65535)", FRESH.next().expand(65535), 0);
        CHECK.same("expand(1)", FRESH.next().expand(1), Words.i(19, 0, 0, 0, 0));
        CHECK.same("expand(65534)", FRESH.next().expand(65534), Words.s(35, 3, 2, 31, 504));
    }

    private static void expandRefusesWhatIsNoHalf() {
        CHECK.sentence("2: IllegalArgumentException when it is not 0 .. 65535");
        for (int half : NO_HALVES) {
            CHECK.refuses("new: expand(" + half + ")", () -> new ShortForms().expand(half));
            ShortForms x = new ShortForms();
            x.take(2);
            x.take(7);
            CHECK.refuses("a half waits: expand(" + half + ")", () -> x.expand(half));
            state("after expand(" + half + ")", x, 4115, 2, 1);
            CHECK.same("after expand(" + half + "): drop()", x.drop(), true);
        }
        for (int half = 0; half <= 65535; half++) {
            FRESH.next().expand(half);
        }
    }

    private static void shortenGivesTheLeastHalf() {
        CHECK.sentence("3: The least half that stands for a word");
        for (int n = -32; n <= 31; n++) {
            int bits = (n & 31) * 4 + (n < 0 ? 0x1000 : 0);
            leastOfTwo(0x0001 + bits, 0x4001 + bits, Words.i(19, 0, 0, 0, n));
        }
        leastOfTwo(0x1101, 0x713D, Words.i(19, 2, 0, 2, -32));
        leastOfTwo(0x1141, 0x717D, Words.i(19, 2, 0, 2, -16));
        leastOfTwo(0x0141, 0x6141, Words.i(19, 2, 0, 2, 16));
        for (int q = 1; q <= 31; q++) {
            leastOfTwo(0x8002 + q * 4, 0x9002 + q * 4, Words.r(51, 0, 0, 0, q, 0));
        }
        CHECK.same("the least half of all", FRESH.next().shorten(19), 1);
        CHECK.same("the greatest half of all", FRESH.next().shorten(Words.s(35, 3, 2, 31, 504)), 65534);
        for (int half = 0; half <= 65535; half++) {
            int word = FRESH.next().expand(half);
            if (word != 0) {
                leastIsAHalfForIt(word, half);
            }
        }
    }

    private static void leastOfTwo(int least, int other, int word) {
        CHECK.same("expand(" + least + ")", FRESH.next().expand(least), word);
        CHECK.same("expand(" + other + ")", FRESH.next().expand(other), word);
        CHECK.same("shorten(" + word + ")", FRESH.next().shorten(word), least);
    }

    private static void leastIsAHalfForIt(int word, int half) {
        int least = FRESH.next().shorten(word);
        boolean inRange = least >= 0 && least <= half;
        CHECK.same("shorten(" + word + ") is 0 .. " + half, inRange, true);
        if (inRange) {
            CHECK.same("expand(" + least + ")", FRESH.next().expand(least), word);
        }
    }

    private static void shortenGivesNone() {
        CHECK.sentence("3: NONE");
        CHECK.same("NONE", ShortForms.NONE, -1);
        int[] words = {
            -1, 1, 2, 3, Integer.MIN_VALUE, Integer.MAX_VALUE,
            Words.i(19, 10, 0, 11, 0), // d and a are not one register
            Words.i(19, 10, 0, 10, 32), Words.i(19, 10, 0, 10, -33), // too great and too small for n
            Words.i(27, 0, 0, 0, 1), // none if r is 0
            Words.u(55, 2, 4096), // r being 2 is another line
            Words.u(55, 10, 0), // none if n is 0
            Words.i(19, 16, 5, 16, 1), // no p is 16
            Words.i(19, 7, 5, 7, 1), // no p is 7
            Words.r(59, 10, 4, 10, 11, 0), // 1, 2 and 1, 3 are none
            Words.j(1, 0), // d is not 0
            Words.b(0, 10, 1, 0), // b is not 0
            Words.b(2, 10, 0, 0), // f is neither 0 nor 1
            Words.i(3, 0, 2, 2, 0), Words.i(3, 0, 3, 2, 0), // none if r is 0
            Words.i(103, 0, 0, 0, 0), Words.i(103, 1, 0, 0, 0), // none, and another word, if r is 0
            Words.i(103, 1, 0, 10, 1), // the immediate is not 0
            Words.i(115, 0, 0, 0, 0), // the immediate is not 1
            Words.r(51, 10, 0, 11, 12, 0), // a is neither 0 nor r
            Words.r(51, 10, 0, 0, 0, 0)}; // q being 0 is another line
        for (int word : words) {
            CHECK.same("shorten(" + word + ")", FRESH.next().shorten(word), -1);
        }
    }

    private static void zeroIsNeverStoodFor() {
        CHECK.sentence("3: 0 is never stood for");
        CHECK.same("shorten(0)", FRESH.next().shorten(0), -1);
        CHECK.same("halves(0)", FRESH.next().halves(0), 0);
        ShortForms x = new ShortForms();
        x.take(0);
        CHECK.same("take(0), shorten(0)", x.shorten(0), -1);
        CHECK.same("take(0), halves(0)", x.halves(0), 0);
    }

    private static void howManyHalvesStandForAWord() {
        CHECK.sentence("4: How many halves stand for a word");
        CHECK.same("halves(-1)", FRESH.next().halves(-1), 0);
        CHECK.same("halves(MIN_VALUE)", FRESH.next().halves(Integer.MIN_VALUE), 0);
        CHECK.same("halves(MAX_VALUE)", FRESH.next().halves(Integer.MAX_VALUE), 0);
        CHECK.same("halves(19)", FRESH.next().halves(19), 2);
        CHECK.same("halves(0x01010113)", FRESH.next().halves(0x01010113), 2);
        CHECK.same("halves(0x02010113)", FRESH.next().halves(0x02010113), 1);
        CHECK.same("halves(0x00500033)", FRESH.next().halves(0x00500033), 2);
        CHECK.same("halves(0x00100073)", FRESH.next().halves(0x00100073), 1);
        int ones = 0;
        int twos = 0;
        for (int half = 0; half <= 65535; half++) {
            int word = FRESH.next().expand(half);
            if (word != 0) {
                int count = FRESH.next().halves(word);
                ones += count == 1 ? 1 : 0;
                twos += count == 2 ? 1 : 0;
            }
        }
        // 64 values of n with r being 0, 3 moves of the stack that n can tell too, 31 copies to register 0.
        CHECK.same("halves whose word has two", twos, 2 * (64 + 3 + 31));
        CHECK.same("halves whose word has one", ones, 46743 - 2 * (64 + 3 + 31));
    }

    private static void takeIsTrueWhenAnInstructionIsWhole() {
        CHECK.sentence("5: true when an instruction is whole with it");
        ShortForms x = new ShortForms();
        CHECK.same("take(0), the least half", x.take(0), true);
        CHECK.same("take(1)", x.take(1), true);
        CHECK.same("take(2)", x.take(2), true);
        CHECK.same("take(32768), which stands for none", x.take(32768), true);
        CHECK.same("take(65534)", x.take(65534), true);
        state("after five whole ones", x, Words.s(35, 3, 2, 31, 504), 2, 5);
    }

    private static void lowestBits3NeedASecondHalf() {
        CHECK.sentence("5: one whose lowest bits are 3 needs a second half");
        for (int half = 3; half <= 65535; half += 4) {
            ShortForms x = new ShortForms();
            CHECK.same("take(" + half + ")", x.take(half), false);
            state("take(" + half + ")", x, 0, 0, 0);
            CHECK.same("take(" + half + "), take(0)", x.take(0), true);
            state("take(" + half + "), take(0)", x, half, 4, 1);
            CHECK.same("take(" + half + "), take(0), take(0)", x.take(0), true);
            state("take(" + half + "), take(0), take(0)", x, 0, 2, 2);
        }
    }

    private static void theSecondHalfIsAnyOne() {
        CHECK.sentence("5: any one");
        for (int half = 0; half <= 65535; half++) {
            ShortForms x = new ShortForms();
            x.take(0xFFFF);
            CHECK.same("take(65535), take(" + half + ")", x.take(half), true);
            state("take(65535), take(" + half + ")", x, half * 65536 + 65535, 4, 1);
            CHECK.same("take(65535), take(" + half + "), take(1)", x.take(1), true);
            state("take(65535), take(" + half + "), take(1)", x, 19, 2, 2);
        }
    }

    private static void takeRefusesWhatIsNoHalf() {
        CHECK.sentence("5: IllegalArgumentException when it is not 0 .. 65535");
        for (int half : NO_HALVES) {
            ShortForms x = new ShortForms();
            CHECK.refuses("new: take(" + half + ")", () -> x.take(half));
            state("new: take(" + half + ")", x, 0, 0, 0);
            CHECK.same("new: take(" + half + "), drop()", x.drop(), false);
            x.take(2);
            CHECK.refuses("none waits: take(" + half + ")", () -> x.take(half));
            state("none waits: take(" + half + ")", x, 4115, 2, 1);
            CHECK.same("none waits: take(" + half + "), take(7)", x.take(7), false);
            CHECK.refuses("a half waits: take(" + half + ")", () -> x.take(half));
            state("a half waits: take(" + half + ")", x, 4115, 2, 1);
            CHECK.same("a half waits: take(" + half + "), take(9)", x.take(9), true);
            state("a half waits: take(" + half + "), take(9)", x, 9 * 65536 + 7, 4, 2);
        }
    }

    private static void theWordOfTheLatestWholeInstruction() {
        CHECK.sentence("6: The word of the latest whole instruction");
        ShortForms x = new ShortForms();
        x.take(0x0013);
        x.take(0x7FFF);
        CHECK.same("the greatest second half without the highest bit", x.word(), 0x7FFF0013);
        x.take(0x8003);
        CHECK.same("a half waits", x.word(), 0x7FFF0013);
        x.take(0x8000);
        CHECK.same("the highest bit of both halves", x.word(), 0x80008003);
        x.take(0xFFFF);
        x.take(0xFFFF);
        CHECK.same("all bits", x.word(), -1);
        x.take(0x0003);
        x.drop();
        CHECK.same("a half that was dropped", x.word(), -1);
        x.take(0x0003);
        x.take(0x0000);
        CHECK.same("the second half is 0", x.word(), 3);
        x.take(0x9003);
        x.take(0x0001);
        CHECK.same("a second half that would stand for a word", x.word(), 0x00019003);
    }

    private static void theWordForWhichItStands() {
        CHECK.sentence("6: or that for which it stands");
        for (int half = 0; half <= 65535; half++) {
            if ((half & 3) != 3) {
                ShortForms x = new ShortForms();
                x.take(half);
                CHECK.same("take(" + half + "), word()", x.word(), x.expand(half));
            }
        }
    }

    private static void wordIsZeroWhenThereIsNone() {
        CHECK.sentence("6: 0 when there is none");
        int[] none = {0x0000, 0x001C, 0x8000, 0x9FFC, 0x2001, 0x307D, 0x6101, 0x6001, 0x6F81, 0x9C41, 0x9FFD,
            0x4002, 0x507E, 0x6002, 0x707E, 0x8002};
        ShortForms x = new ShortForms();
        int count = 0;
        for (int half : none) {
            x.take(0xFFFF);
            x.take(0xFFFF);
            CHECK.same("take(" + half + ")", x.take(half), true);
            count += 2;
            state("take(" + half + ")", x, 0, 2, count);
        }
    }

    private static void wordIsZeroAtFirst() {
        CHECK.sentence("6: 0 at first");
        ShortForms x = new ShortForms();
        CHECK.same("word()", x.word(), 0);
        x.expand(1);
        x.shorten(19);
        x.halves(19);
        x.drop();
        CHECK.same("word() after calls that take nothing", x.word(), 0);
        CHECK.refuses("take(-1)", () -> x.take(-1));
        CHECK.same("word() after a refused half", x.word(), 0);
        x.take(0xFFFF);
        CHECK.same("word() while the first half waits", x.word(), 0);
    }

    private static void howManyBytesItHas() {
        CHECK.sentence("7: How many bytes it has");
        ShortForms x = new ShortForms();
        x.take(1);
        CHECK.same("one half", x.length(), 2);
        x.take(3);
        CHECK.same("one half, and another waits", x.length(), 2);
        x.take(1);
        CHECK.same("two halves", x.length(), 4);
        x.take(3);
        CHECK.same("two halves, and another waits", x.length(), 4);
        x.drop();
        CHECK.same("two halves, and another was dropped", x.length(), 4);
        x.take(0);
        CHECK.same("one half that stands for none", x.length(), 2);
    }

    private static void lengthIsZeroAtFirst() {
        CHECK.sentence("7: 0 at first");
        ShortForms x = new ShortForms();
        CHECK.same("length()", x.length(), 0);
        x.expand(1);
        x.shorten(19);
        x.halves(19);
        x.drop();
        CHECK.same("length() after calls that take nothing", x.length(), 0);
        CHECK.refuses("take(65536)", () -> x.take(65536));
        CHECK.same("length() after a refused half", x.length(), 0);
        x.take(0xFFFF);
        CHECK.same("length() while the first half waits", x.length(), 0);
    }

    private static void howManyWholeInstructionsThereWere() {
        CHECK.sentence("8: How many whole instructions there were");
        ShortForms x = new ShortForms();
        CHECK.same("none yet", x.whole(), 0);
        x.take(3);
        CHECK.same("a half waits", x.whole(), 0);
        x.take(3);
        CHECK.same("two halves are one", x.whole(), 1);
        x.take(1);
        CHECK.same("one half is one", x.whole(), 2);
        x.take(0);
        CHECK.same("one that stands for none", x.whole(), 3);
        x.take(0);
        CHECK.same("the same again", x.whole(), 4);
        x.take(3);
        x.drop();
        CHECK.same("a half that was dropped", x.whole(), 4);
        CHECK.refuses("take(65536)", () -> x.take(65536));
        CHECK.same("a half that was refused", x.whole(), 4);
        x.expand(1);
        CHECK.same("a half that was expanded alone", x.whole(), 4);
    }

    private static void aWaitingHalfIsForgotten() {
        CHECK.sentence("9: A half that waits for its second one is forgotten");
        for (int second = 0; second <= 2; second++) {
            ShortForms x = new ShortForms();
            x.take(0xFFFF);
            x.drop();
            state("take(65535), drop()", x, 0, 0, 0);
            CHECK.same("take(" + second + ") after drop()", x.take(second), true);
            state("take(" + second + ") after drop()", x, x.expand(second), 2, 1);
        }
        ShortForms x = new ShortForms();
        x.take(0xFFFF);
        x.drop();
        CHECK.same("take(3) after drop()", x.take(3), false);
        CHECK.same("its second half", x.take(0), true);
        state("take(3), take(0) after drop()", x, 3, 4, 1);
    }

    private static void dropTellsWhetherThereWasOne() {
        CHECK.sentence("9: whether there was one");
        ShortForms x = new ShortForms();
        CHECK.same("new: drop()", x.drop(), false);
        x.take(1);
        CHECK.same("behind one half: drop()", x.drop(), false);
        x.take(3);
        CHECK.same("a half waits: drop()", x.drop(), true);
        CHECK.same("once more: drop()", x.drop(), false);
        x.take(3);
        x.take(3);
        CHECK.same("behind two halves: drop()", x.drop(), false);
        CHECK.refuses("take(65539)", () -> x.take(65539));
        CHECK.same("behind a refused half: drop()", x.drop(), false);
        x.take(3);
        CHECK.refuses("take(-1)", () -> x.take(-1));
        CHECK.same("a half waits through a refused one: drop()", x.drop(), true);
        state("at the end", x, 3 * 65536 + 3, 4, 2);
    }

    private static void state(String when, ShortForms x, int word, int length, int whole) {
        CHECK.same(when + ": word()", x.word(), word);
        CHECK.same(when + ": length()", x.length(), length);
        CHECK.same(when + ": whole()", x.whole(), whole);
    }
}
