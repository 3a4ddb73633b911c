import java.util.Collections;
import java.util.HashMap;
import java.util.Map;
import java.util.function.IntUnaryOperator;

/**
 * "Terms": each immediate with a sign and each one without. Every value that a line's immediate can have is
 * tried, and every other value of the word's field round it must be stood for by none.
 *
 * <p>An immediate is told by weights: "12: -32" says that h[12] adds -32 to it. So a sign is the one weight
 * that is below 0, and a least and a greatest value follow that stand beside it as numbers.
 */
public final class ImmediatesTest {
    private static final Check CHECK = new Check();
    private static final Fresh FRESH = new Fresh();

    private static final String N = "12: -32, 6: 16, 5: 8, 4: 4, 3: 2, 2: 1";
    private static final String Z = "12: 32, 6: 16, 5: 8, 4: 4, 3: 2, 2: 1";
    private static final String EIGHT_BYTES = "6: 128, 5: 64, 12: 32, 11: 16, 10: 8";
    private static final String FOUR_BYTES = "5: 64, 12: 32, 11: 16, 10: 8, 6: 4";
    private static final String BRANCH = "12: -256, 6: 128, 5: 64, 2: 32, 11: 16, 10: 8, 4: 4, 3: 2";
    private static final String LOAD_EIGHT = "4: 256, 3: 128, 2: 64, 12: 32, 6: 16, 5: 8";
    private static final String STORE_EIGHT = "9: 256, 8: 128, 7: 64, 12: 32, 11: 16, 10: 8";

    public static void main(String[] args) {
        withSign();
        withSignMarkedWithAMinus();
        withoutSign();
        withoutSignToldByPlaces();
        CHECK.end();
    }

    // In the halves below r is 10 and q is 11, or p is 10 and s is 11.

    private static void withSign() {
        CHECK.sentence("h[1:0] = 1, 0: n has a sign");
        field12(0x0501, N, -32, 31, false, n -> Words.i(19, 10, 0, 10, n));
        CHECK.sentence("h[1:0] = 1, 1: n has a sign");
        field12(0x2501, N, -32, 31, false, n -> Words.i(27, 10, 0, 10, n));
        CHECK.sentence("h[1:0] = 1, 2: n has a sign");
        field12(0x4501, N, -32, 31, false, n -> Words.i(19, 10, 0, 0, n));
        CHECK.sentence("h[1:0] = 1, 3, r not 2: n * 4096 has a sign, none if n is 0");
        values(0x6501, N, -32, 31, true, n -> Words.u(55, 10, n * 4096));
        others(0x6501, N, -(1 << 19), (1 << 19) - 1, 1, n -> Words.u(55, 10, n * 4096));
        CHECK.sentence("h[1:0] = 1, 4, 2: n has a sign");
        field12(0x8901, N, -32, 31, false, n -> Words.i(19, 10, 7, 10, n));
    }

    private static void withSignMarkedWithAMinus() {
        CHECK.sentence("h[1:0] = 1, 3, r being 2: -i, none if i is 0");
        String move = "12: -512, 4: 256, 3: 128, 5: 64, 2: 32, 6: 16";
        moveOfStack(move);
        CHECK.sentence("h[1:0] = 1, 5: -i");
        String jump = "12: -2048, 8: 1024, 10: 512, 9: 256, 6: 128, 7: 64, 2: 32, 11: 16, 5: 8, 4: 4, 3: 2";
        values(0xA001, jump, -2048, 2046, false, i -> Words.j(0, i));
        others(0xA001, jump, -(1 << 20), (1 << 20) - 2, 2, i -> Words.j(0, i));
        CHECK.sentence("h[1:0] = 1, 6: -i");
        values(0xC101, BRANCH, -256, 254, false, i -> Words.b(0, 10, 0, i));
        others(0xC101, BRANCH, -4096, 4094, 2, i -> Words.b(0, 10, 0, i));
        CHECK.sentence("h[1:0] = 1, 7: -i as for 6");
        values(0xE101, BRANCH, -256, 254, false, i -> Words.b(1, 10, 0, i));
        others(0xE101, BRANCH, -4096, 4094, 2, i -> Words.b(1, 10, 0, i));
    }

    // The line of n with r being 2 makes the same words from -32 to 31, and its halves are the lower ones.
    private static void moveOfStack(String move) {
        Map<Integer, Integer> halves = halvesByValue(0x6101, move);
        for (int i = -2048; i <= 2047; i++) {
            int word = Words.i(19, 2, 0, 2, i);
            boolean byMove = i != 0 && i % 16 == 0 && i >= -512 && i <= 496;
            boolean byN = i >= -32 && i <= 31;
            if (byMove) {
                CHECK.same("expand for i " + i, FRESH.next().expand(halves.get(i)), word);
            }
            int halfByN = 0x0101 + (i & 31) * 4 + (i < 0 ? 0x1000 : 0);
            int due = byN ? halfByN : byMove ? halves.get(i) : ShortForms.NONE;
            CHECK.same("shorten for i " + i, FRESH.next().shorten(word), due);
            CHECK.same("halves for i " + i, FRESH.next().halves(word), (byMove ? 1 : 0) + (byN ? 1 : 0));
        }
        CHECK.same("expand(24833), i being 0", FRESH.next().expand(0x6101), 0);
    }

    private static void withoutSign() {
        CHECK.sentence("h[1:0] = 1, 4, 0: z has no sign");
        values(0x8101, Z, 0, 63, false, z -> Words.i(19, 10, 5, 10, z));
        CHECK.sentence("h[1:0] = 1, 4, 1: z + 1024, z without sign");
        values(0x8501, Z, 0, 63, false, z -> Words.i(19, 10, 5, 10, z + 1024));
        CHECK.sentence("h[1:0] = 1, 4, 0 and 1: nothing but 0 .. 63 and 1024 .. 1087");
        for (int i = -2048; i <= 2047; i++) {
            if (i < 0 || i > 63 && i < 1024 || i > 1087) {
                notStoodFor(i, Words.i(19, 10, 5, 10, i));
            }
        }
        CHECK.sentence("h[1:0] = 2, 0: z has no sign");
        field12(0x0502, Z, 0, 63, false, z -> Words.i(19, 10, 1, 10, z));
    }

    private static void withoutSignToldByPlaces() {
        CHECK.sentence("h[1:0] = 0, 0: i has no sign, none if i is 0");
        String addToStack = "10: 512, 9: 256, 8: 128, 7: 64, 12: 32, 11: 16, 5: 8, 6: 4";
        field12(0x000C, addToStack, 0, 1020, true, i -> Words.i(19, 11, 0, 2, i));
        CHECK.sentence("h[1:0] = 0, 1: i has no sign");
        field12(0x210C, EIGHT_BYTES, 0, 248, false, i -> Words.i(7, 11, 3, 10, i));
        CHECK.sentence("h[1:0] = 0, 2: i has no sign");
        field12(0x410C, FOUR_BYTES, 0, 124, false, i -> Words.i(3, 11, 2, 10, i));
        CHECK.sentence("h[1:0] = 0, 3: i as for 1");
        field12(0x610C, EIGHT_BYTES, 0, 248, false, i -> Words.i(3, 11, 3, 10, i));
        CHECK.sentence("h[1:0] = 0, 5: i as for 1");
        field12(0xA10C, EIGHT_BYTES, 0, 248, false, i -> Words.s(39, 3, 10, 11, i));
        CHECK.sentence("h[1:0] = 0, 6: i as for 2");
        field12(0xC10C, FOUR_BYTES, 0, 124, false, i -> Words.s(35, 2, 10, 11, i));
        CHECK.sentence("h[1:0] = 0, 7: i as for 1");
        field12(0xE10C, EIGHT_BYTES, 0, 248, false, i -> Words.s(35, 3, 10, 11, i));
        CHECK.sentence("h[1:0] = 2, 1: i has no sign");
        field12(0x2502, LOAD_EIGHT, 0, 504, false, i -> Words.i(7, 10, 3, 2, i));
        CHECK.sentence("h[1:0] = 2, 2: i has no sign");
        String loadFour = "3: 128, 2: 64, 12: 32, 6: 16, 5: 8, 4: 4";
        field12(0x4502, loadFour, 0, 252, false, i -> Words.i(3, 10, 2, 2, i));
        CHECK.sentence("h[1:0] = 2, 3: i as for 1");
        field12(0x6502, LOAD_EIGHT, 0, 504, false, i -> Words.i(3, 10, 3, 2, i));
        CHECK.sentence("h[1:0] = 2, 5: i has no sign");
        field12(0xA02E, STORE_EIGHT, 0, 504, false, i -> Words.s(39, 3, 2, 11, i));
        CHECK.sentence("h[1:0] = 2, 6: i has no sign");
        String storeFour = "8: 128, 7: 64, 12: 32, 11: 16, 10: 8, 9: 4";
        field12(0xC02E, storeFour, 0, 252, false, i -> Words.s(35, 2, 2, 11, i));
        CHECK.sentence("h[1:0] = 2, 7: i as for 5");
        field12(0xE02E, STORE_EIGHT, 0, 504, false, i -> Words.s(35, 3, 2, 11, i));
    }

    /** A line whose word keeps 12 bits of the immediate. */
    private static void field12(int base, String weights, int least, int greatest, boolean noneIfZero,
            IntUnaryOperator word) {
        values(base, weights, least, greatest, noneIfZero, word);
        others(base, weights, -2048, 2047, 1, word);
    }

    private static void values(int base, String weights, int least, int greatest, boolean noneIfZero,
            IntUnaryOperator word) {
        Map<Integer, Integer> halves = halvesByValue(base, weights);
        CHECK.same("the least of " + weights, (int) Collections.min(halves.keySet()), least);
        CHECK.same("the greatest of " + weights, (int) Collections.max(halves.keySet()), greatest);
        halves.forEach((value, half) -> {
            if (noneIfZero && value == 0) {
                CHECK.same("expand(" + half + ")", FRESH.next().expand(half), 0);
                notStoodFor(value, word.applyAsInt(value));
            } else {
                stoodForByOne(half, word.applyAsInt(value));
            }
        });
    }

    private static void others(int base, String weights, int lowest, int highest, int step, IntUnaryOperator word) {
        Map<Integer, Integer> halves = halvesByValue(base, weights);
        for (int value = lowest; value <= highest; value += step) {
            if (!halves.containsKey(value)) {
                notStoodFor(value, word.applyAsInt(value));
            }
        }
    }

    private static Map<Integer, Integer> halvesByValue(int base, String weights) {
        Map<Integer, Integer> halves = new HashMap<>();
        halves.put(0, base);
        for (String weight : weights.split(", ")) {
            String[] bitAndValue = weight.split(": ");
            int bit = 1 << Integer.parseInt(bitAndValue[0]);
            int value = Integer.parseInt(bitAndValue[1]);
            Map<Integer, Integer> more = new HashMap<>();
            halves.forEach((sum, half) -> more.put(sum + value, half + bit));
            halves.putAll(more);
        }
        return halves;
    }

    private static void stoodForByOne(int half, int word) {
        CHECK.same("expand(" + half + ")", FRESH.next().expand(half), word);
        CHECK.same("shorten(" + word + ")", FRESH.next().shorten(word), half);
        CHECK.same("halves(" + word + ")", FRESH.next().halves(word), 1);
    }

    private static void notStoodFor(int value, int word) {
        CHECK.same("immediate " + value + ": shorten(" + word + ")", FRESH.next().shorten(word), ShortForms.NONE);
        CHECK.same("immediate " + value + ": halves(" + word + ")", FRESH.next().halves(word), 0);
    }
}
