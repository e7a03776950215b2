/** Promises 74 and 75, and the limits of things and faults that several calls answer FULL for. */
public final class ToldTest {
    private static final int BAD = GlassHouse.BAD, FULL = GlassHouse.FULL, NO = GlassHouse.NO;
    private static final int NULL = -11, SIZE = -13, CAST = -14;

    public static void main(String[] args) {
        tells();
        tellsFaults();
        endsWithThings();
        endsWithFaults();
        goesBeyondByOneCall();
        Check.end();
    }

    private static void tells() {
        GlassHouse x = new GlassHouse();
        x.minute(3);
        x.grid(0, 9, 3, 1, false);
        x.get(1, 0, 0);
        x.row(2, 4, 1);
        x.write(2);
        x.write(2);
        x.power(5);
        x.write(2);
        x.day(4);
        x.step(0, 1, 0, 0, 0);
        x.step(3, 1, 0, 0, 0);
        x.value(1, 0);
        long[] want = {3, 5, 1, 2, 3, 1, 0, 4, 2, 2, 1};
        for (int what = 0; what < want.length; what++) Check.due("told " + what, x.told(what), want[what]);
        Check.all("bad", new long[] {x.told(11), x.told(-1)}, BAD, BAD);
    }

    private static void tellsFaults() {
        GlassHouse x = new GlassHouse();
        Check.due("none", x.fault(), 0);
        x.row(0, 4, -1);
        Check.due("SIZE", x.fault(), 3);
        x.row(0, 4, 41);
        x.row(0, 4, 1);
        Check.due("the latest that had one", x.fault(), 3);
        x.step(0, 16, 0, 0, 0);
        x.step(0, 7, 0, 0, 0);
        x.step(0, 0, 0, 0, 0);
        x.step(0, 17, 8, 0, 0);
        x.step(0, 0, 0, 0, 0);
        x.run(0);
        Check.due("one that was met did not go out", x.fault(), 3);
        Check.due("but came", x.told(2), 2);
        x.step(0, 9, 0, 0, 0);
        x.run(0);
        Check.due("STATE", x.fault(), 7);
        Check.due("two more", x.told(2), 4);
        x.quotient(4, 1, 0, 0);
        Check.due("ZERO", x.fault(), 6);
    }

    private static void endsWithThings() {
        GlassHouse x = new GlassHouse();
        x.row(1, 4, 1);
        x.put(1, 4, 0, 1);
        for (int i = 0; i < 363; i++) x.grid(0, 9, 10, 1, false);
        for (int i = 0; i < 6; i++) x.row(2, 0, 0);
        Check.due("4000", x.told(1), 4000);
        Check.all("full", new long[] {x.row(3, 0, 1), x.grid(3, 8, 1, 1, true), x.storeys(3, 1), x.copy(3, 0, false),
            x.copy(3, 9, true), x.plant(3, 0, 0, 0, 0, 0), x.tray(3, 12, 1), x.card(3), x.shares(1, 5, 3), x.run(0)},
            FULL, FULL, FULL, FULL, FULL, FULL, FULL, FULL, FULL, FULL);
        Check.due("FULL ahead of SIZE", x.row(3, 0, -1), FULL);
        Check.due("FULL ahead of CAST", x.plant(3, 2, 0, 0, 0, 0), FULL);
        Check.due("BAD ahead of FULL", x.row(3, 8, 1) + x.copy(16, 0, true) + x.run(4), 3 * BAD);
        x.step(0, 0, 0, 0, 0);
        Check.due("NO ahead of FULL", x.run(0), NO);
        Check.due("shares: CAST ahead of FULL", x.shares(0, 5, 3), CAST);
        Check.due("shares: NULL ahead of FULL", x.shares(9, 5, 3), NULL);
        x.put(1, 4, 0, -1);
        Check.due("shares: NO ahead of FULL", x.shares(1, 5, 3), NO);
        Check.due("others go on", x.put(1, 4, 0, 6) + x.get(1, 4, 0) + x.share(3, 1), 8);
        Check.due("no more were made", x.told(1), 4000);
    }

    private static void endsWithFaults() {
        GlassHouse x = new GlassHouse();
        x.setStock(0, 148);
        int[][] steps = {{20, 0}, {16, 0}, {7, 1}, {0, 0}, {17, 0}, {0, 0}, {0, 0}};
        for (int[] s : steps) x.step(0, s[0], s[1], 0, 0);
        for (int i = 0; i < 30; i++) Check.due("spent with a hundred faults", x.run(0) + x.ran(8), 70);
        Check.due("3000", x.told(2), 3000);
        Check.all("full", new long[] {x.row(3, 0, 1), x.grid(3, 8, 1, 1, true), x.storeys(3, 1), x.copy(3, 0, false),
            x.plant(3, 0, 0, 0, 0, 0), x.tray(3, 12, 1), x.card(3), x.run(0), x.run(1)},
            FULL, FULL, FULL, FULL, FULL, FULL, FULL, FULL, FULL);
        Check.due("others go on", x.put(0, 4, 0, 1), NULL);
        Check.due("and are counted", x.told(2), 3001);
        Check.due("stock", x.setStock(0, 1), 1);
        GlassHouse y = new GlassHouse();
        y.setStock(0, 148);
        for (int[] s : steps) y.step(0, s[0], s[1], 0, 0);
        for (int i = 0; i < 29; i++) y.run(0);
        for (int i = 0; i < 99; i++) y.put(0, 4, 0, 1);
        Check.due("2999 are not yet as many", y.row(0, 4, -1), SIZE);
        Check.due("now they are", y.row(0, 4, -1), FULL);
    }

    private static void goesBeyondByOneCall() {
        GlassHouse x = new GlassHouse();
        x.storeys(0, 4);
        x.grid(1, 9, 10, 1, false);
        for (int i = 0; i < 4; i++) x.set(0, i, 1);
        // 12 things, then 45 by each copy
        for (int i = 0; i < 88; i++) x.copy(2, 0, true);
        for (int i = 0; i < 27; i++) x.card(3);
        Check.due("one is left", x.told(1), 3999);
        Check.due("the last call", x.copy(2, 0, true), 1);
        Check.due("goes beyond", x.told(1), 3999 + 45);
        Check.due("then none", x.card(3), FULL);
    }
}
