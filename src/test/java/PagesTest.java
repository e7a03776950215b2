import java.nio.ByteBuffer;

/** Promises 68 to 73: pages. */
public final class PagesTest {
    private static final int NULL = -11, CAST = -14;
    private static final int BAD = GlassHouse.BAD, NONE = GlassHouse.NONE, NO = GlassHouse.NO, FULL = GlassHouse.FULL;

    public static void main(String[] args) {
        writes();
        refuses();
        losesPower();
        losesPowerLate();
        opens();
        readsByNumbers();
        clashes();
        findsWhole();
        endsWithTheGreatestNumber();
        damages();
        Check.end();
    }

    private static void writes() {
        GlassHouse x = new GlassHouse();
        int[] lanes = {1, 3, 4, 5};
        long[] cells = {-1, 100, -128, 5, 0, 127};
        for (int k = 0; k < 4; k++) {
            row(x, 0, lanes[k], cells);
            Check.due("number", x.write(0), k + 1);
            Check.due("latest", x.told(3), k + 1);
            Check.due("next", x.told(4), k + 1);
            compare(x, k, sheet(k + 1, lanes[k], cells));
            Check.all("page", new long[] {x.page(k, 0), x.page(k, 1), x.page(k, 2), x.page(k, 3)}, k, k + 1, lanes[k], 6);
            for (int c = 0; c < 6; c++) Check.due("cell", x.page(k, 10 + c), cells[c]);
        }
        row(x, 0, 5, Long.MIN_VALUE, Long.MAX_VALUE);
        x.write(0);
        compare(x, 4, sheet(5, 5, Long.MIN_VALUE, Long.MAX_VALUE));
        Check.all("none such", new long[] {x.page(4, 12), x.page(4, 4), x.page(4, 9), x.page(4, -1), x.page(5, 0), x.page(-1, 0),
            x.page(4, Integer.MAX_VALUE), x.page(4, Integer.MIN_VALUE)}, NONE, NONE, NONE, NONE, NONE, NONE, NONE, NONE);
        x.row(0, 4, 0);
        Check.due("no cells", x.write(0), 6);
        compare(x, 5, sheet(6, 4));
        Check.due("read", x.told(8), 6);
    }

    private static void refuses() {
        GlassHouse x = new GlassHouse();
        for (int lane : new int[] {0, 2, 6, 7}) {
            x.row(0, lane, 1);
            Check.due("lane " + lane, x.write(0), CAST);
        }
        x.card(0);
        Check.due("card", x.write(0), CAST);
        x.grid(0, 9, 1, 1, false);
        Check.due("grid", x.write(0), CAST);
        Check.due("nothing", x.write(9), NULL);
        Check.all("bad", new long[] {x.write(16), x.write(-1)}, BAD, BAD);
        x.row(1, 4, 7);
        Check.due("seven cells", x.write(1), FULL);
        Check.due("nothing begun", x.told(4), 0);
        x.row(2, 4, 1);
        for (int i = 1; i <= 20; i++) Check.due("write", x.write(2), i);
        Check.due("no page", x.write(2), FULL);
        Check.due("power is not used for it", x.power(0) + x.write(2) + x.told(5), 1 + FULL);
        Check.due("CAST ahead of FULL", x.write(0), CAST);
        Check.all("power", new long[] {x.power(201), x.power(-2), x.power(200), x.power(NONE)}, BAD, BAD, 1, 1);
    }

    private static void losesPower() {
        for (int n = 0; n <= 64; n++) {
            GlassHouse x = new GlassHouse();
            row(x, 0, 4, -1, -1, -1, -1, -1, -1);
            x.write(0);
            Check.due("power", x.power(n), 1);
            Check.due("not dark yet", x.told(5), 0);
            Check.due("write", x.write(0), n == 64 ? 2 : NO);
            Check.due("dark", x.told(5), n == 64 ? 0 : 1);
            Check.due("latest", x.told(3), n == 64 ? 2 : 1);
            Check.due("next", x.told(4), n == 0 ? 1 : 2);
            byte[] want = sheet(2, 4, -1, -1, -1, -1, -1, -1);
            for (int i = n; i < 64; i++) want[i] = 0;
            compare(x, 1, want);
            if (n == 64) continue;
            Check.due("nothing is written", x.write(0), NO);
            Check.due("no power either", x.power(NONE), NO);
            Check.due("BAD ahead of NO", x.power(201), BAD);
            Check.due("CAST ahead of NO", x.card(1) + x.write(1), CAST);
            Check.due("NULL ahead of NO", x.write(9), NULL);
            x.row(2, 4, 7);
            Check.due("NO ahead of FULL", x.write(2), NO);
            boolean sumEndsIn0 = n == 63 && sheet(2, 4, -1, -1, -1, -1, -1, -1)[63] == 0;
            Check.due("open", x.open1(), sumEndsIn0 ? 2 : 1);
            Check.due("next", x.told(4), n < 4 ? 1 : 2);
            Check.due("light", x.told(5), 0);
            Check.due("write", x.write(0), 2);
        }
    }

    private static void losesPowerLate() {
        GlassHouse x = new GlassHouse();
        row(x, 0, 1, 5);
        x.power(150);
        Check.all("two, and a torn one", new long[] {x.write(0), x.write(0), x.write(0), x.told(5), x.told(3), x.told(4)},
            1, 2, NO, 1, 2, 3);
        Check.due("22 bytes of it", x.octet(2, 3) * 100 + x.octet(2, 19), 305);
        Check.due("no more", x.octet(2, 63) + x.octet(2, 60), 0);
        x.open1();
        x.power(128);
        Check.all("128 are two pages", new long[] {x.write(0), x.write(0), x.told(5), x.write(0), x.told(4)}, 3, 4, 0, NO, 5);
        x.open1();
        x.power(1);
        x.power(NONE);
        Check.due("it stays", x.write(0), 5);
        x.power(10);
        x.open1();
        Check.due("opened: power is set no more", x.write(0), 6);
    }

    private static void opens() {
        GlassHouse x = new GlassHouse();
        Check.due("nothing", x.open1(), 0);
        row(x, 0, 4, 9);
        for (int i = 0; i < 3; i++) x.write(0);
        x.damage(2, 20, 1);
        Check.due("as it was till opened", x.told(3) * 10 + x.told(4), 33);
        Check.due("but read are two", x.told(8), 2);
        Check.due("open", x.open1(), 2);
        Check.due("latest", x.told(3), 2);
        Check.due("next", x.told(4), 3);
        Check.due("write", x.write(0), 3);
        Check.due("its page", x.page(2, 0), 3);
        for (int i = 0; i < 64; i++) x.damage(3, i, x.octet(3, i));
        x.open1();
        Check.due("a page of zeros is none", x.told(4), 3);
        x.damage(17, 63, 4);
        x.open1();
        Check.due("behind the last that is not all 0", x.told(4), 18);
        Check.due("write", x.write(0), 3);
        Check.due("there", x.page(2, 0), 18);
        x.damage(19, 0, 255);
        x.open1();
        Check.due("no page behind", x.told(4), 20);
        Check.due("full", x.write(0), FULL);
        GlassHouse y = new GlassHouse();
        row(y, 0, 4, 9);
        y.damage(0, 7, 9);
        y.write(0);
        Check.due("what lay there is written over", y.octet(0, 7), 0);
        Check.due("whole", y.told(8), 1);
    }

    private static void readsByNumbers() {
        GlassHouse x = new GlassHouse();
        put(x, 4, sheet(7, 1, 1));
        put(x, 9, sheet(3, 3, 2));
        put(x, 12, sheet(5, 4, 3));
        put(x, 2, sheet(5, 5, 4));
        Check.due("read", x.open1(), 3);
        Check.all("pages", new long[] {x.page(0, 0), x.page(1, 0), x.page(2, 0)}, 9, 2, 4);
        Check.all("numbers", new long[] {x.page(0, 1), x.page(1, 1), x.page(2, 1)}, 3, 5, 7);
        Check.all("cells", new long[] {x.page(0, 10), x.page(1, 10), x.page(2, 10)}, 2, 4, 1);
        Check.due("latest", x.told(3), 7);
        Check.due("next", x.told(4), 13);
        x.damage(2, 12, 1);
        Check.all("as pages are now", new long[] {x.page(1, 0), x.told(8), x.told(6)}, 12, 3, 0);
    }

    private static void clashes() {
        GlassHouse x = new GlassHouse();
        put(x, 3, sheet(5, 4, 1));
        put(x, 5, sheet(5, 4, 1));
        Check.due("the same bytes", x.told(6), 0);
        put(x, 7, sheet(5, 4, 2));
        put(x, 8, sheet(5, 4, 2));
        Check.due("two other ones", x.told(6), 2);
        put(x, 1, sheet(5, 4, 2));
        Check.due("by the least one", x.told(6), 2);
        put(x, 9, sheet(6, 4, 2));
        Check.due("another number", x.told(6), 2);
        x.damage(1, 6, 1);
        x.damage(3, 6, 1);
        x.damage(5, 6, 1);
        Check.due("only whole ones", x.told(6), 0);
        Check.due("read", x.told(8), 2);
    }

    private static void findsWhole() {
        byte[][] pages = {sheet(1, 1, 127), sheet(1, 1, 128), sheet(1, 1, -129), sheet(1, 3, 32768), sheet(1, 3, -32768),
            sheet(1, 4, 2147483648L), sheet(1, 4, -2147483648L), sheet(1, 5, Long.MIN_VALUE), sheet(0, 4, 1), sheet(-1, 4, 1),
            sheet(1, 0, 1), sheet(1, 2, 1), sheet(1, 6, 1), sheet(1, 7, 1), sheet(1, 8, 1), sheet(Integer.MAX_VALUE, 4, 1),
            summed(changed(sheet(1, 4, 1), 6, 1)), summed(changed(sheet(1, 4, 1), 11, 1)), summed(changed(sheet(1, 4, 1), 20, 1)),
            summed(changed(sheet(1, 4, 1), 5, 7)), summed(changed(sheet(1, 4, 1), 5, 6)), summed(changed(sheet(1, 4, 1), 5, 0)),
            summed(changed(sheet(1, 4, 0), 5, 0)), changed(sheet(1, 4, 1), 63, 77), summed(changed(sheet(1, 4, 1), 5, 255)),
            summed(changed(sheet(1, 4, 1), 4, 132))};
        int[] whole = {1, 0, 0, 0, 1, 0, 1, 1, 0, 0, 0, 0, 0, 0, 0, 1, 0, 0, 0, 0, 1, 0, 1, 0, 0, 0};
        for (int i = 0; i < pages.length; i++) {
            GlassHouse x = new GlassHouse();
            put(x, 10, pages[i]);
            Check.due("page " + i, x.told(8), whole[i]);
        }
        byte[] page = sheet(9, 4, 1, 2, 3);
        for (int i = 0; i < 64; i++) {
            GlassHouse x = new GlassHouse();
            put(x, 0, changed(page, i, page[i] ^ 16));
            Check.due("byte " + i + " other", x.open1(), 0);
        }
    }

    private static void endsWithTheGreatestNumber() {
        GlassHouse x = new GlassHouse();
        row(x, 0, 4, 1);
        put(x, 0, sheet(Integer.MAX_VALUE - 1, 4, 1));
        x.open1();
        Check.due("the greatest", x.write(0), Integer.MAX_VALUE);
        Check.due("no more", x.write(0), FULL);
    }

    private static void damages() {
        GlassHouse x = new GlassHouse();
        Check.all("damage", new long[] {x.damage(19, 63, 255), x.damage(19, 63, 1), x.octet(19, 63), x.damage(0, 0, 0)},
            255, 254, 254, 0);
        Check.all("bad", new long[] {x.damage(20, 0, 0), x.damage(-1, 0, 0), x.damage(0, 64, 0), x.damage(0, -1, 0), x.damage(0, 0, 256),
            x.damage(0, 0, -1), x.octet(20, 0), x.octet(-1, 0), x.octet(0, 64), x.octet(0, -1)}, BAD, BAD, BAD, BAD, BAD, BAD, BAD,
            BAD, BAD, BAD);
    }

    private static byte[] sheet(int number, int lane, long... cells) {
        ByteBuffer page = ByteBuffer.allocate(64);
        page.putInt(number).put((byte) lane).put((byte) cells.length).position(12);
        for (long cell : cells) page.putLong(cell);
        return summed(page.array());
    }

    private static byte[] summed(byte[] page) {
        int sum = 0;
        for (int i = 0; i < 60; i++) sum = Integer.rotateLeft(sum ^ (page[i] & 0xFF), 11) * 0xC2B2AE35;
        ByteBuffer.wrap(page).putInt(60, sum);
        return page;
    }

    private static byte[] changed(byte[] page, int i, int to) {
        byte[] other = page.clone();
        other[i] = (byte) to;
        return other;
    }

    private static void put(GlassHouse x, int page, byte[] bytes) {
        for (int i = 0; i < 64; i++) {
            int mask = x.octet(page, i) ^ bytes[i] & 0xFF;
            if (mask != 0) Check.due("put", x.damage(page, i, mask), bytes[i] & 0xFF);
        }
    }

    private static void compare(GlassHouse x, int page, byte[] want) {
        for (int i = 0; i < 64; i++) Check.due("page " + page + " byte " + i, x.octet(page, i), want[i] & 0xFF);
    }

    private static void row(GlassHouse x, int bin, int lane, long... cells) {
        x.row(bin, lane, cells.length);
        for (int i = 0; i < cells.length; i++) x.put(bin, lane, i, cells[i]);
    }
}
