/** Promises 40 to 43: tables. */
public final class TablesTest {
    private static final int BAD = GlassHouse.BAD, NONE = GlassHouse.NONE, NO = GlassHouse.NO, FULL = GlassHouse.FULL;

    public static void main(String[] args) {
        takesLines();
        tellsValues();
        laysByRests();
        laysOnce();
        Check.end();
    }

    private static void takesLines() {
        GlassHouse x = new GlassHouse();
        for (int i = 1; i <= 8; i++) Check.due("line", x.line(1, i == 8 ? 1000000 : -1000001 + i, i % 2 == 0 ? 1000000 : -1000000), i);
        Check.due("not above the last, ahead of FULL", x.line(1, 1000000, 0), BAD);
        GlassHouse y = new GlassHouse();
        for (int i = 0; i < 8; i++) y.line(0, i, 0);
        Check.due("the ninth", y.line(0, 8, 0), FULL);
        Check.due("BAD ahead of FULL", y.line(0, 8, 1000001), BAD);
        Check.due("the same x", y.line(0, 7, 0), BAD);
        Check.all("beyond", new long[] {y.line(1, 1000001, 0), y.line(1, -1000001, 0), y.line(1, 0, 1000001),
            y.line(1, 0, -1000001), y.line(3, 0, 0), y.line(-1, 0, 0)}, BAD, BAD, BAD, BAD, BAD, BAD);
        Check.due("first", y.line(1, 5, 0), 1);
        Check.due("lower", y.line(1, 4, 0), BAD);
        Check.due("second", y.line(1, 6, 0), 2);
    }

    private static void tellsValues() {
        GlassHouse x = new GlassHouse();
        Check.due("without lines", x.value(2, 77), 0);
        x.line(0, -10, 100);
        Check.due("one line", x.value(0, Integer.MIN_VALUE), 100);
        Check.due("one line", x.value(0, -10), 100);
        Check.due("one line", x.value(0, Integer.MAX_VALUE), 100);
        x.line(0, -3, 90);
        x.line(0, 4, 95);
        Check.all("down, cut downwards", new long[] {x.value(0, -10), x.value(0, -9), x.value(0, -8), x.value(0, -4),
            x.value(0, -3)}, 100, 98, 97, 91, 90);
        Check.all("up, cut downwards", new long[] {x.value(0, -2), x.value(0, 0), x.value(0, 3), x.value(0, 4), x.value(0, 5)},
            90, 92, 94, 95, 95);
        x.line(1, -1000000, -1000000);
        x.line(1, 1000000, 1000000);
        Check.due("far", x.value(1, 999999), 999999);
        Check.due("far", x.value(1, -999999), -999999);
        Check.due("bad", x.value(3, 0), 0);
        Check.due("bad", x.value(-1, 0), 0);
        Check.due("laid", x.told(10), 3);
    }

    private static void laysByRests() {
        GlassHouse x = new GlassHouse();
        x.rest(0, 1);
        x.rest(1, 2);
        Check.due("chain", x.value(0, 0), 2);
        Check.all("order", new long[] {x.laid(0), x.laid(1), x.laid(2), x.laid(3), x.laid(-1)}, 2, 1, 0, NONE, NONE);
        GlassHouse y = new GlassHouse();
        y.rest(0, 1);
        y.rest(1, 2);
        y.rest(2, 0);
        Check.due("ring from 1", y.value(1, 0), 3);
        Check.all("offsets", new long[] {y.value(0, 0), y.value(2, 0)}, 1, 2);
        Check.all("order", new long[] {y.laid(0), y.laid(1), y.laid(2)}, 0, 2, 1);
        GlassHouse z = new GlassHouse();
        z.rest(1, 1);
        z.line(1, 0, 5);
        Check.due("on itself", z.value(1, 0), 6);
        z.value(2, 0);
        z.rest(0, 2);
        Check.due("on one that is laid", z.value(0, 0), 1);
    }

    private static void laysOnce() {
        GlassHouse x = new GlassHouse();
        Check.due("rest", x.rest(0, 1), 1);
        Check.due("on none", x.rest(0, NONE), 1);
        Check.due("offset 0", x.value(0, 0), 0);
        Check.due("laid", x.rest(0, 1), NO);
        Check.due("BAD ahead of NO", x.rest(0, 3), BAD);
        Check.all("bad", new long[] {x.rest(3, 0), x.rest(-1, 0), x.rest(1, -2)}, BAD, BAD, BAD);
        Check.due("1 is not laid", x.told(10), 1);
        Check.due("lines may still come", x.line(0, 1, 9), 1);
        Check.due("and count", x.value(0, 1), 9);
        Check.due("no faults", x.told(2), 0);
    }
}
