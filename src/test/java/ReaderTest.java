/** Promises 1 and 5 to 9. */
public final class ReaderTest {
    private static final Check CHECK = new Check();

    public static void main(String[] args) {
        aNewObject();
        everyHalfTaken();
        everySecondHalf();
        everyFirstOfTwoHalves();
        whatStaysWhileAHalfWaits();
        dropForgetsTheWaitingHalf();
        wrongHalves();
        objectsAreApart();
        CHECK.end();
    }

    private static void aNewObject() {
        ShortForms x = new ShortForms();
        state("new", x, 0, 0, 0);
        CHECK.same("new: drop()", x.drop(), false);
        state("new, after drop()", x, 0, 0, 0);
        CHECK.same("new: the first half is no second one, take(1)", x.take(1), true);
        state("new, after take(1)", x, 19, 2, 1);
    }

    private static void everyHalfTaken() {
        for (int half = 0; half <= 65535; half++) {
            ShortForms x = new ShortForms();
            boolean shortForm = (half & 3) != 3;
            String call = "take(" + half + ")";
            CHECK.same(call, x.take(half), shortForm);
            if (shortForm) {
                state(call, x, DocumentLines.word(half), 2, 1);
            } else {
                state(call, x, 0, 0, 0);
            }
            CHECK.same(call + ", drop()", x.drop(), !shortForm);
        }
    }

    private static void everySecondHalf() {
        for (int half = 0; half <= 65535; half++) {
            ShortForms x = new ShortForms();
            x.take(0x8003);
            String call = "take(32771), take(" + half + ")";
            CHECK.same(call, x.take(half), true);
            state(call, x, half * 65536 + 0x8003, 4, 1);
            CHECK.same(call + ", drop()", x.drop(), false);
        }
    }

    private static void everyFirstOfTwoHalves() {
        for (int half = 3; half <= 65535; half += 4) {
            ShortForms x = new ShortForms();
            x.take(half);
            x.take(0xFFFF);
            state("take(" + half + "), take(65535)", x, -65536 + half, 4, 1);
        }
    }

    private static void whatStaysWhileAHalfWaits() {
        ShortForms x = new ShortForms();
        x.take(0x9002);
        CHECK.same("take(3) after a whole one", x.take(3), false);
        state("a half waits", x, 0x00100073, 2, 1);
        CHECK.same("take(1) as a second half", x.take(1), true);
        state("the second came", x, 65539, 4, 2);
        CHECK.same("take(7)", x.take(7), false);
        state("a half waits behind a long one", x, 65539, 4, 2);
        CHECK.same("take(7) as a second half", x.take(7), true);
        state("the second came again", x, 7 * 65536 + 7, 4, 3);
        CHECK.same("take(0), which stands for none", x.take(0), true);
        state("a whole one that stands for none", x, 0, 2, 4);
    }

    private static void dropForgetsTheWaitingHalf() {
        ShortForms x = new ShortForms();
        x.take(1);
        CHECK.same("drop() with none waiting", x.drop(), false);
        state("drop() with none waiting", x, 19, 2, 1);
        x.take(0xFFFF);
        CHECK.same("drop() with one waiting", x.drop(), true);
        state("drop() with one waiting", x, 19, 2, 1);
        CHECK.same("drop() once more", x.drop(), false);
        CHECK.same("take(2) after drop()", x.take(2), true);
        state("take(2) after drop()", x, 4115, 2, 2);
        x.take(0xFFFF);
        x.drop();
        CHECK.same("take(3) after drop()", x.take(3), false);
        CHECK.same("take(5) after drop() and take(3)", x.take(5), true);
        state("nothing of the dropped half is left", x, 5 * 65536 + 3, 4, 3);
    }

    private static void wrongHalves() {
        int[] wrong = {-1, -2, -65533, 65536, 65537, 65539, 1 << 30, Integer.MAX_VALUE, Integer.MIN_VALUE};
        for (int half : wrong) {
            ShortForms x = new ShortForms();
            CHECK.refuses("new: take(" + half + ")", () -> x.take(half));
            state("new, take(" + half + ")", x, 0, 0, 0);
            CHECK.same("new, take(" + half + "), drop()", x.drop(), false);
            x.take(1);
            x.take(3);
            CHECK.refuses("waiting: take(" + half + ")", () -> x.take(half));
            state("waiting, take(" + half + ")", x, 19, 2, 1);
            CHECK.same("still waiting after take(" + half + "): take(4)", x.take(4), true);
            state("the second came after take(" + half + ")", x, 4 * 65536 + 3, 4, 2);
        }
    }

    private static void objectsAreApart() {
        ShortForms x = new ShortForms();
        ShortForms y = new ShortForms();
        x.take(1);
        x.take(3);
        state("another object", y, 0, 0, 0);
        CHECK.same("another object: drop()", y.drop(), false);
        CHECK.same("the first object: drop()", x.drop(), true);
    }

    private static void state(String when, ShortForms x, int word, int length, int whole) {
        CHECK.same(when + ": word()", x.word(), word);
        CHECK.same(when + ": length()", x.length(), length);
        CHECK.same(when + ": whole()", x.whole(), whole);
    }
}
