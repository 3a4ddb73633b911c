import java.util.BitSet;

/** "Terms": each line that says "none", each half that is one bit beside it, and no other half. */
public final class NoneTest {
    private static final Check CHECK = new Check();
    private static final Fresh FRESH = new Fresh();
    private static final BitSet TOLD = new BitSet(65536);

    public static void main(String[] args) {
        lowestBits0();
        lowestBits1();
        lowestBits1ByTwoRegisters();
        lowestBits2();
        lowestBits3();
        linesThatDoNotSayNone();
        noOtherHalf();
        CHECK.end();
    }

    private static void lowestBits0() {
        CHECK.sentence("h[1:0] = 0, 0: none if i is 0");
        none(0x0000, 0x001C);
        for (int s = 8; s <= 15; s++) {
            stands(0x0020 + (s - 8) * 4, Words.i(19, s, 0, 2, 8));
            stands(0x0040 + (s - 8) * 4, Words.i(19, s, 0, 2, 4));
            stands(0x0080 + (s - 8) * 4, Words.i(19, s, 0, 2, 64));
            stands(0x0100 + (s - 8) * 4, Words.i(19, s, 0, 2, 128));
            stands(0x0200 + (s - 8) * 4, Words.i(19, s, 0, 2, 256));
            stands(0x0400 + (s - 8) * 4, Words.i(19, s, 0, 2, 512));
            stands(0x0800 + (s - 8) * 4, Words.i(19, s, 0, 2, 16));
            stands(0x1000 + (s - 8) * 4, Words.i(19, s, 0, 2, 32));
        }
        CHECK.sentence("h[1:0] = 0, 4: none");
        none(0x8000, 0x1FFC);
        stands(0x7FFC, Words.i(3, 15, 3, 15, 248));
        stands(0xA000, Words.s(39, 3, 8, 8, 0));
    }

    private static void lowestBits1() {
        CHECK.sentence("h[1:0] = 1, 1: none if r is 0");
        none(0x2001, 0x107C);
        for (int r = 1; r <= 31; r++) {
            stands(0x2001 + r * 128, Words.i(27, r, 0, r, 0));
            stands(0x307D + r * 128, Words.i(27, r, 0, r, -1));
        }
        CHECK.sentence("h[1:0] = 1, 3, r being 2: none if i is 0");
        none(0x6101, 0);
        stands(0x6105, Words.i(19, 2, 0, 2, 32));
        stands(0x6109, Words.i(19, 2, 0, 2, 128));
        stands(0x6111, Words.i(19, 2, 0, 2, 256));
        stands(0x6121, Words.i(19, 2, 0, 2, 64));
        stands(0x6141, Words.i(19, 2, 0, 2, 16));
        stands(0x7101, Words.i(19, 2, 0, 2, -512));
        CHECK.sentence("h[1:0] = 1, 3, r being another: none if n is 0");
        for (int r = 0; r <= 31; r++) {
            if (r != 2) {
                none(0x6001 + r * 128, 0);
                stands(0x6005 + r * 128, Words.u(55, r, 1 << 12));
                stands(0x6009 + r * 128, Words.u(55, r, 2 << 12));
                stands(0x6011 + r * 128, Words.u(55, r, 4 << 12));
                stands(0x6021 + r * 128, Words.u(55, r, 8 << 12));
                stands(0x6041 + r * 128, Words.u(55, r, 16 << 12));
                stands(0x7001 + r * 128, Words.u(55, r, -32 << 12));
            }
        }
    }

    private static void lowestBits1ByTwoRegisters() {
        CHECK.sentence("h[1:0] = 1, 4, 3: 1, 2 none");
        none(0x9C41, 0x039C);
        CHECK.sentence("h[1:0] = 1, 4, 3: 1, 3 none");
        none(0x9C61, 0x039C);
        CHECK.sentence("h[1:0] = 1, 4, 3: the six others stand for a word");
        for (int p = 8; p <= 15; p++) {
            for (int s = 8; s <= 15; s++) {
                int registers = (p - 8) * 128 + (s - 8) * 4;
                stands(0x8C01 + registers, Words.r(51, p, 0, p, s, 32));
                stands(0x8C21 + registers, Words.r(51, p, 4, p, s, 0));
                stands(0x8C41 + registers, Words.r(51, p, 6, p, s, 0));
                stands(0x8C61 + registers, Words.r(51, p, 7, p, s, 0));
                stands(0x9C01 + registers, Words.r(59, p, 0, p, s, 32));
                stands(0x9C21 + registers, Words.r(59, p, 0, p, s, 0));
            }
        }
    }

    private static void lowestBits2() {
        CHECK.sentence("h[1:0] = 2, 2: none if r is 0");
        none(0x4002, 0x107C);
        CHECK.sentence("h[1:0] = 2, 3: none if r is 0");
        none(0x6002, 0x107C);
        CHECK.sentence("h[1:0] = 2, 2 and 3: r being another");
        for (int r = 1; r <= 31; r++) {
            stands(0x4002 + r * 128, Words.i(3, r, 2, 2, 0));
            stands(0x507E + r * 128, Words.i(3, r, 2, 2, 252));
            stands(0x6002 + r * 128, Words.i(3, r, 3, 2, 0));
            stands(0x707E + r * 128, Words.i(3, r, 3, 2, 504));
        }
        CHECK.sentence("h[1:0] = 2, 4, h[12] 0, q being 0: none if r is 0");
        none(0x8002, 0);
        for (int x = 1; x <= 31; x++) {
            stands(0x8002 + x * 128, Words.i(103, 0, 0, x, 0));
            stands(0x8002 + x * 4, Words.r(51, 0, 0, 0, x, 0));
        }
        CHECK.sentence("h[1:0] = 2, 4, h[12] 1, q being 0: a word if r is 0, and another if not");
        stands(0x9002, Words.i(115, 0, 0, 0, 1));
        for (int x = 1; x <= 31; x++) {
            stands(0x9002 + x * 128, Words.i(103, 1, 0, x, 0));
            stands(0x9002 + x * 4, Words.r(51, 0, 0, 0, x, 0));
        }
    }

    private static void lowestBits3() {
        CHECK.sentence("h[1:0] = 3: none");
        none(0x0003, 0xFFFC);
    }

    private static void linesThatDoNotSayNone() {
        CHECK.sentence("r, n, z or i being 0 is none only where a line says so");
        stands(0x0001, Words.i(19, 0, 0, 0, 0));
        stands(0x0501, Words.i(19, 10, 0, 10, 0));
        stands(0x2501, Words.i(27, 10, 0, 10, 0));
        stands(0x4001, Words.i(19, 0, 0, 0, 0));
        stands(0x407D, Words.i(19, 0, 0, 0, 31));
        stands(0x6005, Words.u(55, 0, 4096));
        stands(0x8001, Words.i(19, 8, 5, 8, 0));
        stands(0x8401, Words.i(19, 8, 5, 8, 1024));
        stands(0x8801, Words.i(19, 8, 7, 8, 0));
        stands(0xA001, Words.j(0, 0));
        stands(0xC001, Words.b(0, 8, 0, 0));
        stands(0xE001, Words.b(1, 8, 0, 0));
        stands(0x0002, Words.i(19, 0, 1, 0, 0));
        stands(0x0502, Words.i(19, 10, 1, 10, 0));
        stands(0x2002, Words.i(7, 0, 3, 2, 0));
        stands(0x2000, Words.i(7, 8, 3, 8, 0));
        stands(0x4000, Words.i(3, 8, 2, 8, 0));
        stands(0x6000, Words.i(3, 8, 3, 8, 0));
        stands(0xC000, Words.s(35, 2, 8, 8, 0));
        stands(0xE000, Words.s(35, 3, 8, 8, 0));
        stands(0xA002, Words.s(39, 3, 2, 0, 0));
        stands(0xC002, Words.s(35, 2, 2, 0, 0));
        stands(0xE002, Words.s(35, 3, 2, 0, 0));
    }

    private static void noOtherHalf() {
        CHECK.sentence("each half that no line calls none stands for a word");
        for (int half = 0; half <= 65535; half++) {
            CHECK.same("expand(" + half + ") is 0", FRESH.next().expand(half) == 0, TOLD.get(half));
        }
    }

    /** Each half that has the bits of base, whatever its open bits are. */
    private static void none(int base, int open) {
        int bits = 0;
        do {
            int half = base | bits;
            TOLD.set(half);
            CHECK.same("expand(" + half + ")", FRESH.next().expand(half), 0);
            if ((half & 3) != 3) {
                noneWhenTaken(half);
            }
            bits = bits - open & open;
        } while (bits != 0);
    }

    private static void noneWhenTaken(int half) {
        ShortForms x = new ShortForms();
        x.take(1);
        CHECK.same("take(1), take(" + half + ")", x.take(half), true);
        CHECK.same("take(1), take(" + half + "), word()", x.word(), 0);
        CHECK.same("take(1), take(" + half + "), length()", x.length(), 2);
        CHECK.same("take(1), take(" + half + "), whole()", x.whole(), 2);
    }

    private static void stands(int half, int word) {
        CHECK.same("expand(" + half + ")", FRESH.next().expand(half), word);
        ShortForms x = new ShortForms();
        CHECK.same("take(" + half + ")", x.take(half), true);
        CHECK.same("take(" + half + "), word()", x.word(), word);
        CHECK.same("halves(" + word + ") is not 0", x.halves(word) != 0, true);
        CHECK.same("shorten(" + word + ") is at most " + half, x.shorten(word) <= half, true);
        CHECK.same("shorten(" + word + ") is a half", x.shorten(word) >= 0, true);
    }
}
