/** Words put together of fields, as the document's "Terms" say. */
final class Words {
    private Words() {
    }

    static int i(int c, int d, int f, int a, int i) {
        return c + (d << 7) + (f << 12) + (a << 15) + (i << 20);
    }

    static int r(int c, int d, int f, int a, int b, int g) {
        return c + (d << 7) + (f << 12) + (a << 15) + (b << 20) + (g << 25);
    }

    static int s(int c, int f, int a, int b, int i) {
        return c + ((i & 0x01F) << 7) + (f << 12) + (a << 15) + (b << 20) + ((i & 0xFE0) << 20);
    }

    static int u(int c, int d, int i) {
        return c + (d << 7) + (i & 0xFFFFF000);
    }

    static int b(int f, int a, int b, int i) {
        int low = ((i & 0x0800) >> 4) + ((i & 0x001E) << 7);
        int high = ((i & 0x07E0) << 20) + ((i & 0x1000) << 19);
        return 99 + low + (f << 12) + (a << 15) + (b << 20) + high;
    }

    static int j(int d, int i) {
        int high = ((i & 0x000800) << 9) + ((i & 0x0007FE) << 20) + ((i & 0x100000) << 11);
        return 111 + (d << 7) + (i & 0x0FF000) + high;
    }
}
