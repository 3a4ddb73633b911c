/** Promise 2. */
public final class ExpandTest {
    private static final Check CHECK = new Check();
    private static final Fresh FRESH = new Fresh();

    public static void main(String[] args) {
        everyHalfAsTheDocumentReads();
        wordsWorkedOutByHand();
        linesThatEndInNone();
        wrongHalves();
        stateIsLeftAlone();
        CHECK.end();
    }

    private static void everyHalfAsTheDocumentReads() {
        for (int half = 0; half <= 65535; half++) {
            due(half, DocumentLines.word(half));
        }
    }

    // Known encodings of the processor's assembler, written in hex.
    private static void wordsWorkedOutByHand() {
        due(0x0808, 0x01010513); // c.addi4spn a0, 16 : addi a0, sp, 16
        due(0x4188, 0x0005A503); // c.lw a0, 0(a1)
        due(0x6588, 0x0085B503); // c.ld a0, 8(a1)
        due(0xC188, 0x00A5A023); // c.sw a0, 0(a1)
        due(0x0001, 0x00000013); // c.nop
        due(0x157D, 0xFFF50513); // c.addi a0, -1
        due(0x357D, 0xFFF5051B); // c.addiw a0, -1
        due(0x557D, 0xFFF00513); // c.li a0, -1
        due(0x1141, 0xFF010113); // c.addi sp, -16
        due(0x7139, 0xFC010113); // c.addi16sp -64
        due(0x6505, 0x00001537); // c.lui a0, 1
        due(0x757D, 0xFFFFF537); // c.lui a0, -1
        due(0x8105, 0x00155513); // c.srli a0, 1
        due(0x957D, 0x43F55513); // c.srai a0, 63
        due(0x997D, 0xFFF57513); // c.andi a0, -1
        due(0x8D0D, 0x40B50533); // c.sub a0, a1
        due(0x9D0D, 0x40B5053B); // c.subw a0, a1
        due(0x9D2D, 0x00B5053B); // c.addw a0, a1
        due(0xA001, 0x0000006F); // c.j 0
        due(0xBFFD, 0xFFFFF06F); // c.j -2
        due(0xC101, 0x00050063); // c.beqz a0, 0
        due(0xFD7D, 0xFE051FE3); // c.bnez a0, -2
        due(0x0506, 0x00151513); // c.slli a0, 1
        due(0x4502, 0x00012503); // c.lwsp a0, 0
        due(0x60A2, 0x00813083); // c.ldsp ra, 8
        due(0x8082, 0x00008067); // c.jr ra
        due(0x852E, 0x00B00533); // c.mv a0, a1
        due(0x9002, 0x00100073); // c.ebreak
        due(0x9502, 0x000500E7); // c.jalr a0
        due(0x952E, 0x00B50533); // c.add a0, a1
        due(0xC02A, 0x00A12023); // c.swsp a0, 0
        due(0xE406, 0x00113423); // c.sdsp ra, 8
    }

    private static void linesThatEndInNone() {
        due(0x0000, 0);
        due(0x001C, 0);
        due(0x8000, 0);
        due(0x9FFC, 0);
        due(0x2001, 0);
        due(0x307D, 0);
        due(0x6101, 0);
        due(0x6001, 0);
        due(0x6F81, 0);
        due(0x9C41, 0);
        due(0x9FFD, 0);
        due(0x4002, 0);
        due(0x507E, 0);
        due(0x6002, 0);
        due(0x707E, 0);
        due(0x8002, 0);
        due(0x0003, 0);
        due(0x0013, 0);
        due(0xFFFF, 0);
    }

    private static void wrongHalves() {
        int[] wrong = {-1, -2, -65536, 65536, 65537, 131072, 1 << 30, Integer.MAX_VALUE, Integer.MIN_VALUE};
        for (int half : wrong) {
            CHECK.refuses("expand(" + half + ")", () -> FRESH.next().expand(half));
        }
    }

    private static void stateIsLeftAlone() {
        ShortForms x = new ShortForms();
        x.expand(1);
        CHECK.same("word() after expand", x.word(), 0);
        CHECK.same("length() after expand", x.length(), 0);
        CHECK.same("whole() after expand", x.whole(), 0);
        x.expand(3);
        CHECK.same("drop() after expand(3)", x.drop(), false);
        x.take(3);
        x.expand(1);
        CHECK.refuses("expand(65536) while a half waits", () -> x.expand(65536));
        CHECK.same("drop() after take(3) and expand", x.drop(), true);
    }

    private static void due(int half, int word) {
        CHECK.same("expand(" + half + ")", FRESH.next().expand(half), word);
    }
}
