import java.util.List;
import java.util.Map;

/** Promises 3 and 4. */
public final class ShortenTest {
    private static final Check CHECK = new Check();
    private static final Fresh FRESH = new Fresh();
    private static final Map<Integer, List<Integer>> HALVES = DocumentLines.halvesByWord();

    public static void main(String[] args) {
        everyWordThatIsStoodFor();
        wordsNearThose();
        wordsStrewnOverAll();
        edges();
        stateIsLeftAlone();
        CHECK.end();
    }

    private static void everyWordThatIsStoodFor() {
        for (int word : HALVES.keySet()) {
            dueByDocument(word);
        }
    }

    // A word with one bit changed is most often stood for by none, and shows a bit that was not looked at.
    private static void wordsNearThose() {
        for (int word : HALVES.keySet()) {
            for (int bit = 0; bit < 32; bit++) {
                dueByDocument(word ^ 1 << bit);
            }
        }
    }

    private static void wordsStrewnOverAll() {
        int word = 1;
        for (int k = 0; k < 200000; k++) {
            word = word * 1664525 + 1013904223;
            dueByDocument(word);
        }
        for (int small = 0; small < 70000; small++) {
            dueByDocument(small);
            dueByDocument(-small);
        }
    }

    private static void edges() {
        CHECK.same("NONE", ShortForms.NONE, -1);
        due(0, -1, 0);
        due(-1, -1, 0);
        due(Integer.MIN_VALUE, -1, 0);
        due(Integer.MAX_VALUE, -1, 0);
        due(0x00000013, 0x0001, 2); // addi zero, zero, 0: as addi and as li
        due(0x01010113, 0x0141, 2); // addi sp, sp, 16: as addi and as the move of sp
        due(0xFE010113, 0x1101, 2); // addi sp, sp, -32: as addi and as the move of sp
        due(0x02010113, 0x6105, 1); // addi sp, sp, 32: too great for n
        due(0x00500033, 0x8016, 2); // add zero, zero, t0: as copy and as add
        due(0x00B50533, 0x952E, 1); // add a0, a0, a1
        due(0x00B00533, 0x852E, 1); // add a0, zero, a1
        due(0x00100073, 0x9002, 1); // ebreak
        due(0x00000073, -1, 0); // ecall
        due(0x00008067, 0x8082, 1); // ret
        due(0x00000067, -1, 0); // r is 0
        due(0x000000E7, -1, 0); // r is 0
        due(0x00000033, -1, 0); // q is 0
        due(0x0000001B, -1, 0); // r is 0
        due(0x00000537, -1, 0); // n is 0
        due(0x00001137, -1, 0); // r is 2
        due(0x00012003, -1, 0); // r is 0
        due(0x00013003, -1, 0); // r is 0
        due(0x00010413, -1, 0); // i is 0
        due(0x0001A503, -1, 0); // a is neither 2 nor 8 .. 15
    }

    private static void stateIsLeftAlone() {
        ShortForms x = new ShortForms();
        x.take(2);
        x.take(3);
        x.shorten(19);
        x.halves(19);
        CHECK.same("word() after shorten and halves", x.word(), 4115);
        CHECK.same("length() after shorten and halves", x.length(), 2);
        CHECK.same("whole() after shorten and halves", x.whole(), 1);
        CHECK.same("drop() after shorten and halves", x.drop(), true);
    }

    private static void dueByDocument(int word) {
        List<Integer> halves = HALVES.get(word);
        due(word, halves == null ? -1 : halves.get(0), halves == null ? 0 : halves.size());
    }

    private static void due(int word, int least, int count) {
        CHECK.same("shorten(" + word + ")", FRESH.next().shorten(word), least);
        CHECK.same("halves(" + word + ")", FRESH.next().halves(word), count);
    }
}
