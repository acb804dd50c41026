/** Promises 27 to 32: sheet, write, copy, lays, book, read. */
public final class SheetsTest {
    private static final int[] NO_SHEETS = {-1, 4, Integer.MAX_VALUE, Integer.MIN_VALUE};
    private static final int[] NOT_THERE = {-1, 2, 8, Integer.MAX_VALUE, Integer.MIN_VALUE};

    public static void main(String[] args) {
        sheet();
        sheetFindings();
        write();
        writeTakesTheLowestBits();
        copy();
        copyOntoItself();
        copyFindings();
        lays();
        book();
        read();
        readTriesKindsAndPowers();
        Due.end();
    }

    private static void sheet() {
        int[] bits = {8, 16, 64};
        for (int b : bits) {
            for (int s = 0; s < 4; s++) {
                GrudgeGlasses x = new GrudgeGlasses();
                Due.is("sheet(" + s + ", " + b + ", 40)", x.sheet(s, b, 40), 40);
                for (int i = 0; i < 40; i++) {
                    Due.is("write(" + s + ", " + i + ", 7)", x.write(s, i, 7), 0);
                }
                Due.is("sheet(" + s + ", " + b + ", 3)", x.sheet(s, b, 3), 3);
                Due.is("write(" + s + ", 3, 7)", x.write(s, 3, 7), Due.BEYOND);
                for (int i = 0; i < 3; i++) {
                    Due.is("write(" + s + ", " + i + ", 7)", x.write(s, i, 7), 0);
                }
                Due.is("sheet(" + s + ", " + b + ", 0)", x.sheet(s, b, 0), 0);
                Due.is("write(" + s + ", 0, 7)", x.write(s, 0, 7), Due.BEYOND);
                Due.is("sheet(" + s + ", 0, 5)", x.sheet(s, 0, 5), 0);
                Due.is("write(" + s + ", 0, 7)", x.write(s, 0, 7), Due.MISSING);
            }
        }
    }

    private static void sheetFindings() {
        GrudgeGlasses x = new GrudgeGlasses();
        for (int s : NO_SHEETS) {
            Due.is("no such sheet", x.sheet(s, 8, 1), Due.BEYOND);
            Due.is("no such sheet, of a size below 0", x.sheet(s, 8, -1), Due.BEYOND);
        }
        int[] others = {1, -8, 7, 9, 15, 17, 32, 63, 65, Integer.MIN_VALUE};
        for (int bits : others) {
            Due.is("of " + bits + " bits", x.sheet(0, bits, -1), Due.BEYOND);
        }
        x.sheet(0, 16, 2);
        x.write(0, 1, 300);
        int[] bits = {0, 8, 16, 64};
        for (int b : bits) {
            Due.is("sheet(0, " + b + ", -1)", x.sheet(0, b, -1), Due.SIZE);
            Due.is("sheet(0, " + b + ", least)", x.sheet(0, b, Integer.MIN_VALUE), Due.SIZE);
            Due.is("sheet(0, " + b + ", 41)", x.sheet(0, b, 41), Due.BEYOND);
            Due.is("sheet(0, " + b + ", most)", x.sheet(0, b, Integer.MAX_VALUE), Due.BEYOND);
        }
        Due.is("write(0, 1, 0)", x.write(0, 1, 0), 300);
        Due.is("status(6)", x.status(6), 8);
    }

    private static void write() {
        GrudgeGlasses x = new GrudgeGlasses();
        Due.is("write to none", x.write(1, 0, 5), Due.MISSING);
        Due.is("write to none, no such number", x.write(1, -1, 5), Due.MISSING);
        for (int s : NO_SHEETS) {
            Due.is("write to no sheet", x.write(s, 0, 5), Due.BEYOND);
        }
        x.sheet(1, 64, 3);
        x.sheet(2, 64, 3);
        Due.is("write(1, 0, 5)", x.write(1, 0, 5), 0);
        Due.is("write(1, 2, 6)", x.write(1, 2, 6), 0);
        Due.is("write(1, 0, 7)", x.write(1, 0, 7), 5);
        Due.is("write(1, 1, 7)", x.write(1, 1, 7), 0);
        Due.is("write(1, 2, 7)", x.write(1, 2, 7), 6);
        Due.is("write(2, 0, 7)", x.write(2, 0, 7), 0);
        Due.is("write(1, 3, 7)", x.write(1, 3, 7), Due.BEYOND);
        Due.is("write(1, -1, 7)", x.write(1, -1, 7), Due.BEYOND);
        Due.is("write(1, least, 7)", x.write(1, Integer.MIN_VALUE, 7), Due.BEYOND);
    }

    /** The numbers are of the range that Java's byte, short and long have. */
    private static void writeTakesTheLowestBits() {
        long[] v = {0, 1, -1, 99, 127, 128, 200, 255, 256, -129, 32767, 32768, 65535, 65536, 1L << 40, Long.MIN_VALUE,
            Long.MAX_VALUE, -1000000001L};
        GrudgeGlasses x = new GrudgeGlasses();
        x.sheet(0, 8, 1);
        x.sheet(1, 16, 1);
        x.sheet(2, 64, 1);
        for (long w : v) {
            for (int s = 0; s < 3; s++) {
                x.write(s, 0, w);
            }
            Due.is("8 bits of " + w, x.write(0, 0, 0), (byte) w);
            Due.is("16 bits of " + w, x.write(1, 0, 0), (short) w);
            Due.is("64 bits of " + w, x.write(2, 0, 0), w);
        }
        Due.is("status(-1)", x.status(-1), 0);
    }

    private static GrudgeGlasses counted(int s, int bits, int n) {
        GrudgeGlasses x = new GrudgeGlasses();
        x.sheet(s, bits, n);
        for (int i = 0; i < n; i++) {
            x.write(s, i, i + 1);
        }
        return x;
    }

    private static void numbers(GrudgeGlasses x, int s, int... want) {
        for (int i = 0; i < want.length; i++) {
            Due.is("number " + i + " of sheet " + s, x.write(s, i, want[i]), want[i]);
        }
        Due.is("number " + want.length + " of sheet " + s, x.write(s, want.length, 0), Due.BEYOND);
    }

    private static void copy() {
        GrudgeGlasses x = counted(0, 16, 5);
        x.sheet(3, 16, 4);
        Due.is("copy(0, 1, 3, 2, 2)", x.copy(0, 1, 3, 2, 2), 2);
        numbers(x, 3, 0, 0, 2, 3);
        numbers(x, 0, 1, 2, 3, 4, 5);
        Due.is("copy(0, 1, 3, 0, 4)", x.copy(0, 1, 3, 0, 4), 4);
        numbers(x, 3, 2, 3, 4, 5);
        Due.is("copy(0, 5, 3, 4, 0)", x.copy(0, 5, 3, 4, 0), 0);
        Due.is("copy(3, 3, 0, 0, 1)", x.copy(3, 3, 0, 0, 1), 1);
        numbers(x, 0, 5, 2, 3, 4, 5);
    }

    private static void copyOntoItself() {
        GrudgeGlasses x = counted(1, 8, 5);
        Due.is("copy(1, 0, 1, 1, 4)", x.copy(1, 0, 1, 1, 4), 4);
        numbers(x, 1, 1, 1, 2, 3, 4);
        Due.is("copy(1, 2, 1, 0, 3)", x.copy(1, 2, 1, 0, 3), 3);
        numbers(x, 1, 2, 3, 4, 3, 4);
        Due.is("copy(1, 0, 1, 0, 5)", x.copy(1, 0, 1, 0, 5), 5);
        numbers(x, 1, 2, 3, 4, 3, 4);
    }

    private static void copyFindings() {
        GrudgeGlasses x = counted(0, 8, 3);
        x.sheet(1, 16, 3);
        x.sheet(2, 8, 2);
        for (int s : NO_SHEETS) {
            Due.is("copy from no sheet", x.copy(s, 0, 3, 0, 0), Due.BEYOND);
            Due.is("copy to no sheet", x.copy(3, 0, s, 0, 0), Due.BEYOND);
        }
        Due.is("copy(0, 0, 3, 0, 1)", x.copy(0, 0, 3, 0, 1), Due.MISSING);
        Due.is("copy(3, -1, 0, 0, 1)", x.copy(3, -1, 0, 0, 1), Due.MISSING);
        Due.is("copy(3, 0, 3, 0, 0)", x.copy(3, 0, 3, 0, 0), Due.MISSING);
        Due.is("copy(0, 0, 1, 0, 1)", x.copy(0, 0, 1, 0, 1), Due.KIND);
        Due.is("copy(0, 0, 1, 0, -1)", x.copy(0, 0, 1, 0, -1), Due.KIND);
        int[][] refused = {
            {-1, 0, 1}, {0, -1, 1}, {0, 0, -1}, {0, 0, 3}, {1, 0, 3}, {3, 0, 1}, {0, 2, 1}, {4, 0, 0}, {0, 3, 0},
            {Integer.MAX_VALUE, 0, 1}, {0, Integer.MAX_VALUE, 1}, {1, 1, Integer.MAX_VALUE},
            {Integer.MAX_VALUE, Integer.MAX_VALUE, Integer.MAX_VALUE}, {Integer.MIN_VALUE, 0, Integer.MIN_VALUE},
        };
        for (int[] r : refused) {
            Due.is("copy(0, " + r[0] + ", 2, " + r[1] + ", " + r[2] + ")", x.copy(0, r[0], 2, r[1], r[2]), Due.BEYOND);
        }
        numbers(x, 2, 0, 0);
        Due.is("status(2)", x.status(2), 2);
    }

    private static void lays() {
        GrudgeGlasses x = Due.quayOf(0, 0, 0, 0, 0, 0);
        Due.is("lays(0)", x.lays(0), Due.MISSING);
        for (int s : NO_SHEETS) {
            Due.is("lays of no sheet", x.lays(s), Due.BEYOND);
        }
        x.sheet(0, 64, 5);
        long[] v = {99, 100, 0, -1, (1L << 32) + 5};
        for (int i = 0; i < v.length; i++) {
            x.write(0, i, v[i]);
        }
        Due.is("lays(0)", x.lays(0), 2);
        int[] want = {99, 20, 0, 20, 20, 20};
        for (int k = 0; k < want.length; k++) {
            Due.is("of(" + k + ", 1)", x.of(k, 1), want[k]);
        }
        x.sheet(1, 8, 40);
        Due.is("lays(1)", x.lays(1), 6);
        Due.is("now(1)", x.now(1), 0);
        x.sheet(2, 8, 0);
        Due.is("lays(2)", x.lays(2), 0);
        Due.is("lays(1) of nobody", counted(1, 8, 4).lays(1), 0);
    }

    private static void book() {
        GrudgeGlasses x = Due.quayOf(0, Due.SAINT);
        Due.is("book(0, 0)", x.book(0, 0), Due.MISSING);
        Due.is("book(0, 2)", x.book(0, 2), Due.MISSING);
        for (int s : NO_SHEETS) {
            Due.is("book to no sheet", x.book(s, 0), Due.BEYOND);
        }
        x.sheet(0, 16, 9);
        for (int person : NOT_THERE) {
            Due.is("book of one not there", x.book(0, person), Due.BEYOND);
        }
        Due.is("book(0, 1)", x.book(0, 1), 9);
        numbers(x, 0, 20, 17, 14, 11, 8, 5, 2, 0, 0);
        Due.is("of(1, 1)", x.of(1, 1), 20);
        Due.put(x, 0, 95, 1, 0, 1, 99, 0);
        Due.is("book(0, 0)", x.book(0, 0), 9);
        numbers(x, 0, 95, 96, 97, 98, 99, 99, 99, 99, 99);
        x.sheet(0, 64, 40);
        Due.is("book(0, 0) of 40", x.book(0, 0), 40);
        Due.is("read(0, 0) of 40 is its own at least", x.read(0, 0) > 0 ? 1 : 0, 1);
        for (int i = 0; i < 40; i++) {
            Due.is("number " + i, x.write(0, i, 0), x.on(0, i, 0));
        }
        x.sheet(0, 8, 0);
        Due.is("book(0, 0) of none", x.book(0, 0), 0);
    }

    private static void read() {
        GrudgeGlasses x = Due.quayOf(0, 0);
        Due.is("read(0, 0)", x.read(0, 0), Due.MISSING);
        Due.is("read(0, 2)", x.read(0, 2), Due.MISSING);
        for (int s : NO_SHEETS) {
            Due.is("read of no sheet", x.read(s, 0), Due.BEYOND);
        }
        x.sheet(0, 64, 0);
        Due.is("read(0, 0) of an empty sheet", x.read(0, 0), 600);
        for (int person : NOT_THERE) {
            Due.is("read of one not there", x.read(0, person), Due.BEYOND);
        }
        x.sheet(0, 64, 1);
        Due.is("read(0, 0) of another grudge", x.read(0, 0), 0);
        x.write(0, 0, 20);
        Due.is("read(0, 0) of its grudge", x.read(0, 0), 600);
        x.write(0, 0, (1L << 32) + 20);
        Due.is("read(0, 0) of far more", x.read(0, 0), 0);
    }

    private static void readTriesKindsAndPowers() {
        GrudgeGlasses x = Due.quayOf(0, Due.WIDOW);
        int[] ways = {0, 300, 200, 100, 0};
        x.sheet(0, 8, 2);
        x.write(0, 0, 20);
        for (int less = 0; less < 5; less++) {
            x.write(0, 1, 20 - less);
            Due.is("read(0, 1) of " + less + " less", x.read(0, 1), ways[less]);
        }
        // At whom its pair shows: powers 0 to 29 forgive, 60 and 80 on grow, by kind.
        Due.put(x, 1, 20, 1, 0, 1, 0, 0);
        int[] next = {17, 18, 19, 20, 21, 22, 23, 24};
        int[] want = {100, 2 * 30, 3 * 30, 5 * 30, 3 * 40 + 20, 20 + 20, 0, 20};
        for (int i = 0; i < next.length; i++) {
            x.write(0, 1, next[i]);
            Due.is("read(0, 1) of " + next[i], x.read(0, 1), want[i]);
        }
        Due.is("of(1, 0)", x.of(1, 0), Due.WIDOW);
        Due.is("of(1, 5)", x.of(1, 5), 0);
        Due.is("of(1, 1)", x.of(1, 1), 20);
    }
}
