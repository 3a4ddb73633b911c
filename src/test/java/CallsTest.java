import java.util.List;
import java.util.Map;

/** "What it is": an object is used for 512 calls, and the last one is answered as the first. */
public final class CallsTest {
    private static final int CALLS = 512;
    private static final int RUNS = 2000;

    private static final Check CHECK = new Check();
    private static final Map<Integer, List<Integer>> HALVES = DocumentLines.halvesByWord();
    private static final Integer[] WORDS = HALVES.keySet().toArray(new Integer[0]);

    private static int seed = 1;

    public static void main(String[] args) {
        CHECK.sentence("An object is used for at most 512 calls after it has been made");
        wholeInstructionsOnly();
        halvesThatWait();
        eachCallAsTheLast();
        mixedRuns();
        CHECK.end();
    }

    private static void wholeInstructionsOnly() {
        ShortForms x = new ShortForms();
        for (int k = 1; k < CALLS; k++) {
            CHECK.same("call " + k + ": take(1)", x.take(1), true);
        }
        CHECK.same("call 512: whole()", x.whole(), 511);
    }

    private static void halvesThatWait() {
        ShortForms x = new ShortForms();
        for (int k = 1; k < CALLS; k++) {
            CHECK.same("call " + k + ": take(3)", x.take(3), k % 2 == 0);
        }
        CHECK.same("call 512: whole()", x.whole(), 255);
    }

    private static void eachCallAsTheLast() {
        CHECK.same("call 512: expand(1)", afterAllButOne().expand(1), 19);
        CHECK.refuses("call 512: expand(65536)", () -> afterAllButOne().expand(65536));
        CHECK.same("call 512: shorten(19)", afterAllButOne().shorten(19), 1);
        CHECK.same("call 512: halves(19)", afterAllButOne().halves(19), 2);
        CHECK.same("call 512: take(5)", afterAllButOne().take(5), true);
        CHECK.refuses("call 512: take(-1)", () -> afterAllButOne().take(-1));
        CHECK.same("call 512: word()", afterAllButOne().word(), 4115);
        CHECK.same("call 512: length()", afterAllButOne().length(), 2);
        CHECK.same("call 512: whole()", afterAllButOne().whole(), 510);
        CHECK.same("call 512: drop()", afterAllButOne().drop(), true);
    }

    /** 510 whole instructions and one half that waits. */
    private static ShortForms afterAllButOne() {
        ShortForms x = new ShortForms();
        for (int k = 1; k < CALLS - 1; k++) {
            x.take(2);
        }
        x.take(3);
        return x;
    }

    private static void mixedRuns() {
        for (int run = 0; run < RUNS; run++) {
            ShortForms x = new ShortForms();
            Model model = new Model();
            for (int k = 1; k <= CALLS; k++) {
                oneCall("run " + run + ", call " + k + ": ", x, model);
            }
        }
    }

    private static void oneCall(String when, ShortForms x, Model model) {
        int half = someHalf();
        switch (below(12)) {
            case 0 -> expand(when, x, half);
            case 1 -> shorten(when, x, someWord());
            case 2 -> halves(when, x, someWord());
            case 3 -> CHECK.same(when + "word()", x.word(), model.word);
            case 4 -> CHECK.same(when + "length()", x.length(), model.length);
            case 5 -> CHECK.same(when + "whole()", x.whole(), model.whole);
            case 6 -> CHECK.same(when + "drop()", x.drop(), model.drop());
            default -> take(when, x, model, half);
        }
    }

    private static void expand(String when, ShortForms x, int half) {
        if (isHalf(half)) {
            CHECK.same(when + "expand(" + half + ")", x.expand(half), DocumentLines.word(half));
        } else {
            CHECK.refuses(when + "expand(" + half + ")", () -> x.expand(half));
        }
    }

    private static void shorten(String when, ShortForms x, int word) {
        int due = HALVES.containsKey(word) ? HALVES.get(word).get(0) : -1;
        CHECK.same(when + "shorten(" + word + ")", x.shorten(word), due);
    }

    private static void halves(String when, ShortForms x, int word) {
        int due = HALVES.containsKey(word) ? HALVES.get(word).size() : 0;
        CHECK.same(when + "halves(" + word + ")", x.halves(word), due);
    }

    private static void take(String when, ShortForms x, Model model, int half) {
        if (isHalf(half)) {
            CHECK.same(when + "take(" + half + ")", x.take(half), model.take(half));
        } else {
            CHECK.refuses(when + "take(" + half + ")", () -> x.take(half));
        }
    }

    private static boolean isHalf(int number) {
        return number == (number & 65535);
    }

    private static int someHalf() {
        return switch (below(8)) {
            case 0 -> below(65536) - 65536;
            case 1 -> below(65536) + 65536;
            case 2, 3 -> below(65536) | 3;
            default -> below(65536);
        };
    }

    private static int someWord() {
        int word = WORDS[below(WORDS.length)];
        return below(4) == 0 ? word ^ 1 << below(32) : word;
    }

    // A fixed row of numbers, so that a run that fails fails again.
    private static int below(int bound) {
        seed = seed * 1664525 + 1013904223;
        return (seed >>> 8) % bound;
    }

    /** A reader in its plainest form. */
    private static final class Model {
        private int first = -1;
        private int word = 0;
        private int length = 0;
        private int whole = 0;

        boolean take(int half) {
            if (first < 0 && half % 4 == 3) {
                first = half;
                return false;
            }
            word = first < 0 ? DocumentLines.word(half) : half * 65536 + first;
            length = first < 0 ? 2 : 4;
            whole++;
            first = -1;
            return true;
        }

        boolean drop() {
            boolean was = first >= 0;
            first = -1;
            return was;
        }
    }
}
