import java.math.BigInteger;

/** The edges that promises 54 to 67 and parts 7 and 8 of the terms name; labels are the document's words. */
public final class WaterEdgesTest {
    private static final int NULL = -11, INDEX = -12, CAST = -14, ZERO = -16;
    private static final int BAD = GlassHouse.BAD, NO = GlassHouse.NO, FULL = GlassHouse.FULL;
    private static final int LEAST = Integer.MIN_VALUE, MOST = Integer.MAX_VALUE;
    private static final int MANY = 1000000000;
    private static final long NO_NUMBER = 0x7FF8000000000000L;

    public static void main(String[] args) {
        shares0ToAThousandMillion();
        sharesByOneAndByForty();
        givesWhatIsLeft();
        sharesByNone();
        findsFaultsOfShares();
        dividesAsTheMachine();
        comparesAsTheMachine();
        comparesTheFirstWithTheOther();
        findsFaultsOfCompares();
        tellsRealsOfNoneOneAndForty();
        addsUpInOrder();
        widensFloats();
        meansDoublesOfAllSizes();
        meansWholes();
        hasSaltsOf0To99();
        worksEachRank();
        tellsWitnesses();
        tellsNoneSuch();
        hasPestsUpToAThousandMillion();
        hasPartsOf0To1000();
        agesNoneOneAndAll();
        sendsOnFromStageToStage();
        getsYoung();
        spraysToAFourth();
        waitsSevenDays();
        goesOneTo50Days();
        Check.end();
    }

    private static long bits(double x) {
        return Double.doubleToLongBits(x);
    }

    private static void ints(GlassHouse x, int bin, int... cells) {
        x.row(bin, 4, cells.length);
        for (int i = 0; i < cells.length; i++) x.put(bin, 4, i, cells[i]);
    }

    private static long[] longs(GlassHouse x, int bin) {
        Check.due("a ROW of longs", x.form(bin), 5);
        long[] told = new long[x.size(bin, 0)];
        for (int i = 0; i < told.length; i++) told[i] = x.get(bin, 5, i);
        return told;
    }

    private static void shares0ToAThousandMillion() {
        GlassHouse x = new GlassHouse();
        ints(x, 0, 1, 2);
        for (int n : new int[] {-1, MANY + 1, LEAST, MOST}) Check.due("n", x.shares(0, n, 1), BAD);
        Check.due("0", x.shares(0, 0, 1), 1);
        Check.all("none for each", longs(x, 1), 0, 0);
        Check.due("1", x.shares(0, 1, 1), 1);
        Check.all("to the greatest rest", longs(x, 1), 0, 1);
        Check.due("all", x.shares(0, MANY, 1), 1);
        Check.all("to the last drop", longs(x, 1), 333333333, 666666667);
        Check.due("a new ROW each time", x.told(1), 4);
        x.shares(0, 5, 0);
        Check.all("into its own BIN", longs(x, 0), 2, 3);
    }

    private static void sharesByOneAndByForty() {
        GlassHouse x = new GlassHouse();
        for (int cell : new int[] {1, MOST}) {
            ints(x, 0, cell);
            x.shares(0, MANY, 1);
            Check.all("one CELL has all", longs(x, 1), MANY);
        }
        int[] full = new int[40];
        java.util.Arrays.fill(full, MOST);
        ints(x, 0, full);
        x.shares(0, MANY - 1, 1);
        long[] told = longs(x, 1);
        for (int i = 0; i < 40; i++) Check.due("of like ones to the lesser places", told[i], i < 39 ? 25000000 : 24999999);
        x.shares(0, 39, 1);
        told = longs(x, 1);
        for (int i = 0; i < 40; i++) Check.due("39 of 40", told[i], i < 39 ? 1 : 0);
        int[] steep = new int[40];
        steep[39] = MOST;
        steep[0] = 1;
        ints(x, 0, steep);
        x.shares(0, MANY, 1);
        told = longs(x, 1);
        Check.due("next to nothing", told[0], 0);
        Check.due("the last CELL", told[39], MANY);
    }

    private static void givesWhatIsLeft() {
        int[][] by = {{1, 1, 1}, {3, 2, 1}, {0, 1, 0, 1}, {5, 0, 5}, {1, 2, 3, 4}, {7, 7, 7, 1}};
        int[] n = {2, 7, 3, 1, 5, 3};
        long[][] want = {{1, 1, 0}, {4, 2, 1}, {0, 2, 0, 1}, {1, 0, 0}, {1, 1, 1, 2}, {1, 1, 1, 0}};
        for (int i = 0; i < n.length; i++) {
            GlassHouse x = new GlassHouse();
            ints(x, 0, by[i]);
            x.shares(0, n[i], 1);
            Check.all("shares " + i, longs(x, 1), want[i]);
        }
    }

    private static void sharesByNone() {
        int[][] not = {{}, {0}, {0, 0, 0}, {-1}, {5, -1}, {-1, 5}, {LEAST, MOST, 1}, {0, LEAST}};
        for (int[] cells : not) {
            GlassHouse x = new GlassHouse();
            ints(x, 0, cells);
            for (int n : new int[] {0, 1, MANY}) Check.due("NO", x.shares(0, n, 1), NO);
            Check.due("nothing made", x.told(1) * 10 + x.form(1), 10 - 1);
        }
    }

    private static void findsFaultsOfShares() {
        GlassHouse x = new GlassHouse();
        for (int lane = 0; lane < 8; lane++) {
            x.row(0, lane, 1);
            x.put(0, lane, 0, 1);
            Check.due("TAKEN FOR a ROW of ints", x.shares(0, 1, 1), lane == 4 ? 1 : CAST);
        }
        x.grid(0, 9, 1, 1, false);
        Check.due("a GRID", x.shares(0, 1, 1), CAST);
        Check.due("NULL", x.shares(15, 1, 1), NULL);
        Check.due("BAD ahead of them", x.shares(15, -1, 1) + x.shares(0, 1, 16) + x.shares(16, 1, 1), 3 * BAD);
    }

    private static void dividesAsTheMachine() {
        long[] some = {0, 1, -1, 2, -2, 7, -7, 10, MOST, LEAST, MOST + 1L, LEAST - 1L, 1L << 32, (1L << 32) + 3, Long.MAX_VALUE, Long.MIN_VALUE};
        for (long a : some) {
            GlassHouse x = new GlassHouse();
            for (long b : some) {
                boolean zero = (int) b == 0;
                int faults = x.told(2);
                Check.due("ints", x.quotient(4, a, b, 0), zero ? 0 : (int) a / (int) b);
                Check.due("ints' rest", x.quotient(4, a, b, 1), zero ? 0 : (int) a % (int) b);
                Check.due("longs", x.quotient(5, a, b, 0), b == 0 ? 0 : a / b);
                Check.due("longs' rest", x.quotient(5, a, b, 1), b == 0 ? 0 : a % b);
                Check.due("ZERO", x.told(2) - faults, (zero ? 2 : 0) + (b == 0 ? 2 : 0));
            }
            Check.due("fault", x.fault(), 6);
        }
        GlassHouse x = new GlassHouse();
        for (int lane : new int[] {3, 6, -1, LEAST, MOST}) Check.due("0: BAD", x.quotient(lane, 6, 2, 0), 0);
        for (int what : new int[] {-1, 2, LEAST, MOST}) Check.due("0: BAD", x.quotient(5, 6, 2, what), 0);
        Check.due("no FAULT", x.fault(), 0);
    }

    private static void comparesAsTheMachine() {
        double[] some = {Double.NEGATIVE_INFINITY, -Double.MAX_VALUE, -1.5, -Double.MIN_VALUE, -0.0, 0.0, Double.MIN_VALUE, 1.5, Double.MAX_VALUE,
            Double.POSITIVE_INFINITY, Double.NaN};
        GlassHouse x = new GlassHouse();
        GlassHouse y = new GlassHouse();
        x.row(0, 7, 11);
        y.row(0, 6, 11);
        for (int i = 0; i < 11; i++) {
            x.put(0, 7, i, bits(some[i]));
            y.put(0, 6, i, Float.floatToIntBits((float) some[i]));
        }
        for (int i = 0; i < 11; i++) for (int j = 0; j < 11; j++) {
            Check.due("doubles " + some[i] + " " + some[j], x.compare(7, 0, i, 0, j), stand(some[i], some[j]));
            Check.due("floats " + some[i] + " " + some[j], y.compare(6, 0, i, 0, j), stand((float) some[i], (float) some[j]));
        }
    }

    private static void comparesTheFirstWithTheOther() {
        for (int lane = 6; lane <= 7; lane++) {
            GlassHouse x = new GlassHouse();
            x.row(0, lane, 2);
            x.row(1, lane, 3);
            double[] first = {1, 5};
            double[] other = {1, 3, 7};
            for (int i = 0; i < 2; i++) x.put(0, lane, i, lane == 6 ? Float.floatToIntBits((float) first[i]) : bits(first[i]));
            for (int j = 0; j < 3; j++) x.put(1, lane, j, lane == 6 ? Float.floatToIntBits((float) other[j]) : bits(other[j]));
            for (int i = 0; i < 2; i++) for (int j = 0; j < 3; j++) {
                Check.due("CELLS i of a BIN, j of another one", x.compare(lane, 0, i, 1, j), stand(first[i], other[j]));
                Check.due("the other way", x.compare(lane, 1, j, 0, i), stand(other[j], first[i]));
            }
            Check.due("i is of the first", x.compare(lane, 0, 2, 1, 2), INDEX);
            Check.due("j is of the other one", x.compare(lane, 1, 2, 0, 2), INDEX);
        }
    }

    private static int stand(double a, double b) {
        return (a < b ? 1 : 0) + (a <= b ? 2 : 0) + (a > b ? 4 : 0) + (a >= b ? 8 : 0) + (a == b ? 16 : 0) + (a != b ? 32 : 0);
    }

    private static void findsFaultsOfCompares() {
        GlassHouse x = new GlassHouse();
        x.row(0, 6, 2);
        x.row(1, 6, 1);
        x.row(2, 7, 1);
        x.row(3, 6, 0);
        // each row has all that comes later wrong, too
        int[][] rows = {{2, 9, 2, 9, CAST}, {15, 0, 2, 9, CAST}, {15, 9, 15, 9, NULL}, {0, 2, 15, 9, INDEX}, {0, -1, 15, 9, INDEX}, {0, 1, 15, 9, NULL},
            {0, 1, 1, 1, INDEX}, {0, 0, 1, -1, INDEX}, {3, 0, 0, 0, INDEX}, {0, 0, 3, 0, INDEX}};
        for (int[] r : rows) Check.due("CAST, then NULL, INDEX of the first, then of the other one", x.compare(6, r[0], r[1], r[2], r[3]), r[4]);
        Check.due("the last of both", x.compare(6, 0, 1, 1, 0), 2 + 8 + 16);
        for (int lane : new int[] {-1, 0, 5, 8, LEAST, MOST}) Check.due("a LANE 6 or 7", x.compare(lane, 2, 9, 15, 9), BAD);
    }

    private static void tellsRealsOfNoneOneAndForty() {
        for (int lane = 6; lane <= 7; lane++) {
            GlassHouse x = new GlassHouse();
            x.row(0, lane, 0);
            x.row(1, lane, 3);
            long no = lane == 6 ? 0x7FC00000L : NO_NUMBER;
            for (int i = 0; i < 3; i++) x.put(1, lane, i, no);
            for (int what = 0; what < 4; what++) Check.due("none: no number", x.real(lane, 0, what), NO_NUMBER);
            for (int what = 0; what < 4; what++) Check.due("none that is a number", x.real(lane, 1, what), NO_NUMBER);
            x.put(1, lane, 2, lane == 6 ? Float.floatToIntBits(-2.5f) : bits(-2.5));
            for (int what = 0; what < 4; what++) Check.due("one", x.real(lane, 1, what), bits(-2.5));
            x.row(2, lane, 40);
            for (int i = 0; i < 40; i++) {
                double d = (i * 17 + 5) % 40 - 20;
                x.put(2, lane, i, lane == 6 ? Float.floatToIntBits((float) d) : bits(d));
            }
            Check.all("forty: -20 .. 19", new long[] {x.real(lane, 2, 0), x.real(lane, 2, 1), x.real(lane, 2, 2), x.real(lane, 2, 3)},
                bits(-20), bits(19), bits(-20.0 / 40), bits(-1));
            x.put(2, lane, 0, no);
            Check.due("of 39 the MIDDLE", x.real(lane, 2, 3), bits(0.0));
            for (int what : new int[] {-1, 4, LEAST, MOST}) Check.due("0: BAD", x.real(lane, 2, what), 0);
            Check.due("no FAULT", x.fault(), 0);
            Check.due("0: CAST", x.real(13 - lane, 2, 1) * 10 + x.fault(), 4);
            Check.due("0: NULL", x.real(lane, 15, 1) * 10 + x.fault(), 1);
            for (int far : new int[] {-1, 0, 5, 8, LEAST, MOST}) Check.due("LANE 6, 7", x.real(far, 2, 1), 0);
            Check.due("no FAULT of BAD", x.told(2), 2);
        }
    }

    private static void addsUpInOrder() {
        double[][] rows = {{1e16, 1, 1, -1e16}, {1, 1e16, -1e16, 1}, {Double.MAX_VALUE, Double.MAX_VALUE, -Double.MAX_VALUE}, {-0.0}, {-0.0, -0.0}, {0.0, -0.0},
            {Double.MIN_VALUE, 0}, {-Double.MIN_VALUE, 0, 0}, {Double.MIN_VALUE, Double.MIN_VALUE, Double.MIN_VALUE, 0}, {0.1, 0.2, 0.3},
            {Double.POSITIVE_INFINITY, 1, Double.NEGATIVE_INFINITY}, {Double.POSITIVE_INFINITY, Double.POSITIVE_INFINITY}, {Double.NEGATIVE_INFINITY, 5},
            {Double.MAX_VALUE, Double.MAX_VALUE, Double.NEGATIVE_INFINITY}, {Double.MIN_NORMAL, 0}, {3, Double.NaN, 4}};
        for (double[] r : rows) {
            GlassHouse x = new GlassHouse();
            x.row(0, 7, r.length);
            double sum = 0.0;
            int many = 0;
            for (int i = 0; i < r.length; i++) {
                x.put(0, 7, i, bits(r[i]));
                if (!Double.isNaN(r[i])) {
                    sum += r[i];
                    many++;
                }
            }
            Check.due("the sum, in order from 0.0 on, by how many", x.real(7, 0, 2), bits(sum / many));
        }
        GlassHouse x = new GlassHouse();
        x.row(0, 6, 2);
        x.put(0, 6, 0, Float.floatToIntBits(Float.MAX_VALUE));
        x.put(0, 6, 1, Float.floatToIntBits(Float.MAX_VALUE));
        Check.due("each as a double", x.real(6, 0, 2), bits(Float.MAX_VALUE));
        x.put(0, 6, 0, 1);
        x.put(0, 6, 1, 0);
        Check.due("each as a double", x.real(6, 0, 2), bits(Float.MIN_VALUE / 2.0));
        Check.due("the greatest as a double", x.real(6, 0, 1), bits(Float.MIN_VALUE));
        x.row(1, 7, 2);
        x.put(1, 7, 0, 0);
        x.put(1, 7, 1, 1L << 63);
        Check.all("-0.0 below 0.0", new long[] {x.real(7, 1, 0), x.real(7, 1, 1), x.real(7, 1, 3)}, 1L << 63, 0, 1L << 63);
    }

    private static void widensFloats() {
        int[] some = {0, 1, 2, 3, 0x3FFFFF, 0x400000, 0x7FFFFE, 0x7FFFFF, 0x800000, 0x800001, 0xFFFFFF, 0x1000000, 0x3F7FFFFF, 0x3F800000, 0x3F800001,
            0x7F7FFFFF, 0x7F800000};
        for (int one : some) {
            for (int sign = 0; sign < 2; sign++) {
                GlassHouse x = new GlassHouse();
                x.row(0, 6, 1);
                int cell = one | sign << 31;
                x.put(0, 6, 0, cell);
                double d = Float.intBitsToFloat(cell);
                Check.all("as a double: " + cell, new long[] {x.get(0, 6, 0), x.real(6, 0, 0), x.real(6, 0, 1), x.real(6, 0, 2), x.real(6, 0, 3)},
                    cell, bits(d), bits(d), bits(0.0 + d), bits(d));
            }
        }
        for (int i = 1; i < some.length; i++) {
            GlassHouse x = new GlassHouse();
            x.row(0, 6, 2);
            x.put(0, 6, 0, some[i - 1]);
            x.put(0, 6, 1, some[i]);
            Check.due("the next is greater", x.compare(6, 0, 0, 0, 1) * 100 + x.compare(6, 0, 1, 0, 0), (1 + 2 + 32) * 100 + 4 + 8 + 32);
        }
    }

    private static void meansDoublesOfAllSizes() {
        long[] some = {0, 1, 2, 3, 0x0007FFFFFFFFFFFFL, 0x0008000000000000L, 0x000FFFFFFFFFFFFFL, 0x0010000000000000L, 0x0010000000000001L,
            0x001FFFFFFFFFFFFFL, 0x0020000000000000L, 0x3FEFFFFFFFFFFFFFL, 0x3FF0000000000000L, 0x4330000000000000L, 0x433FFFFFFFFFFFFFL, 0x4340000000000000L,
            0x44F0000000000000L, 0x7FE0000000000000L, 0x7FEFFFFFFFFFFFFFL, 0x7FF0000000000000L};
        for (long one : some) {
            for (long sign : new long[] {0, 1L << 63}) {
                GlassHouse x = new GlassHouse();
                x.row(0, 7, 3);
                double d = Double.longBitsToDouble(one | sign);
                x.put(0, 7, 0, one | sign);
                Check.due("by 3: " + d, x.real(7, 0, 2), bits((0.0 + d) / 3));
                x.put(0, 7, 1, NO_NUMBER);
                Check.due("by 2: " + d, x.real(7, 0, 2), bits((0.0 + d) / 2));
                x.put(0, 7, 2, NO_NUMBER);
                Check.due("alone: " + d, x.real(7, 0, 2), bits(0.0 + d));
            }
        }
    }

    private static void meansWholes() {
        int[] full = new int[40];
        for (int cell : new int[] {MOST, LEAST, -1, 0}) {
            GlassHouse x = new GlassHouse();
            java.util.Arrays.fill(full, cell);
            ints(x, 0, full);
            Check.due("their sum does not wrap", x.wholeMean(0), 1);
            Check.due("of forty alike", x.answer(), cell);
        }
        int[][] rows = {{7}, {1, 2}, {-1, -2}, {-1, 0}, {1, 0}, {MOST, LEAST}, {5, 5, 6}, {-5, -5, -6}};
        int[] want = {7, 1, -1, 0, 0, 0, 5, -5};
        for (int i = 0; i < rows.length; i++) {
            GlassHouse x = new GlassHouse();
            ints(x, 0, rows[i]);
            Check.due("cut", x.wholeMean(0) * 100 + x.answer(), 100 + want[i]);
        }
        GlassHouse x = new GlassHouse();
        ints(x, 0);
        Check.due("of none", x.wholeMean(0), ZERO);
        Check.due("0 before", x.answer(), 0);
        for (int lane = 0; lane < 8; lane++) {
            x.row(0, lane, 1);
            Check.due("TAKEN FOR a ROW of ints", x.wholeMean(0), lane == 4 ? 1 : CAST);
        }
        x.row(0, 5, 0);
        Check.due("CAST ahead of ZERO", x.wholeMean(0), CAST);
        Check.due("NULL", x.wholeMean(15), NULL);
    }

    private static void hasSaltsOf0To99() {
        GlassHouse x = new GlassHouse();
        for (int salt = -1; salt <= 6; salt++) for (int j = -1; j <= 3; j++) {
            int most = salt < 4 ? 99 : 999;
            boolean is = salt >= 0 && salt < 6 && j >= 0 && j < 3;
            Check.due("0 at first", x.salt(salt, j, most), is ? 0 : BAD);
            Check.due("what it was", x.salt(salt, j, 0), is ? most : BAD);
            Check.due("above", x.salt(salt, j, most + 1), BAD);
            Check.due("below", x.salt(salt, j, -1), BAD);
            Check.due("as it was", x.salt(salt, j, 0), is ? 0 : BAD);
        }
    }

    private static void feed(GlassHouse x, int[]... rows) {
        for (int s = 0; s < 6; s++) for (int j = 0; j < 3; j++) x.salt(s, j, rows[s][j]);
    }

    private static void worked(GlassHouse x, String what, long... want) {
        long[] got = new long[12];
        for (int k = 0; k < 4; k++) {
            got[2 * k] = x.worked(0, k);
            got[2 * k + 1] = x.worked(1, k);
        }
        for (int k = 0; k < 3; k++) got[8 + k] = x.worked(2, k);
        got[11] = x.worked(3, 0);
        Check.all(what, got, want);
    }

    private static void worksEachRank() {
        int[] o = {0, 0, 0};
        GlassHouse x = new GlassHouse();
        feed(x, o, o, o, o, o, o);
        Check.due("RANK 0", x.work(), 1);
        worked(x, "RANK 0", 0, 1, 0, 1, 0, 1, 0, 1, 0, 0, 0, 0);
        feed(x, o, o, o, new int[] {0, 0, 99}, new int[] {0, 0, 999}, o);
        Check.due("RANK 1, the last SALT, the last row", x.work(), 1);
        worked(x, "RANK 1", 0, 1, 0, 1, 0, 1, 111, 11, 0, 0, 0, 1);
        feed(x, o, new int[] {0, 99, 0}, o, new int[] {98, 0, 0}, new int[] {0, 0, 0}, new int[] {999, 1, 0});
        Check.due("RANK 2, below 0", x.work(), 2);
        worked(x, "RANK 2", 0, 1, -1, 99, 0, 1, -999, 98, 0, 0, 0, 2);
        feed(x, new int[] {99, 98, 97}, new int[] {96, 99, 95}, new int[] {93, 94, 99}, new int[] {99, 99, 99}, new int[] {999, 0, 999},
            new int[] {0, 999, 0});
        x.work();
        Check.due("RANK 3", x.worked(3, 0), 3);
        Check.due("not needed", x.worked(0, 3) * 10 + x.worked(1, 3), 1);
        for (int j = 0; j < 3; j++) {
            int[][] c = {{99, 96, 93}, {98, 99, 94}, {97, 95, 99}};
            BigInteger up = BigInteger.ZERO;
            BigInteger low = BigInteger.ONE;
            for (int s = 0; s < 3; s++) low = low.multiply(BigInteger.valueOf(x.worked(1, s)));
            for (int s = 0; s < 3; s++) {
                up = up.add(BigInteger.valueOf(x.worked(0, s)).multiply(low).divide(BigInteger.valueOf(x.worked(1, s))).multiply(BigInteger.valueOf(c[j][s])));
            }
            Check.holds("the sum is WISH less WATER", up.equals(low.multiply(BigInteger.valueOf(j == 1 ? -999 : 999))));
        }
        feed(x, new int[] {1, 0, 0}, new int[] {2, 0, 0}, new int[] {0, 1, 0}, new int[] {0, 0, 1}, new int[] {1, 2, 3}, o);
        Check.due("the second SALT is left out", x.work(), 1);
        worked(x, "1, 3, 4", 1, 1, 0, 1, 2, 1, 3, 1, 0, 0, 0, 3);
        feed(x, o, new int[] {0, 2, 0}, new int[] {4, 0, 0}, o, new int[] {2, 1, 0}, o);
        Check.due("rows change places", x.work(), 1);
        worked(x, "halves", 0, 1, 1, 2, 1, 2, 0, 1, 0, 0, 0, 2);
    }

    private static void tellsWitnesses() {
        int[] o = {0, 0, 0};
        GlassHouse x = new GlassHouse();
        for (int j = 0; j < 3; j++) {
            int[] wish = {0, 0, 0};
            wish[j] = 1;
            feed(x, o, o, o, o, wish, o);
            Check.due("NONE", x.work(), 0);
            worked(x, "the first such row", 0, 0, 0, 0, 0, 0, 0, 0, j == 0 ? 1 : 0, j == 1 ? 1 : 0, j == 2 ? 1 : 0, 0);
            feed(x, o, o, o, o, o, wish);
            Check.due("NONE by WATER", x.work(), 0);
            worked(x, "above 0", 0, 0, 0, 0, 0, 0, 0, 0, j == 0 ? 1 : 0, j == 1 ? 1 : 0, j == 2 ? 1 : 0, 0);
        }
        feed(x, new int[] {6, 4, 0}, o, o, o, new int[] {0, 0, 0}, new int[] {3, 3, 5});
        Check.due("NONE", x.work(), 0);
        worked(x, "of two such rows the first", 0, 0, 0, 0, 0, 0, 0, 0, 2, -3, 0, 1);
        feed(x, new int[] {0, 6, 4}, new int[] {0, 3, 2}, o, o, new int[] {0, 3, 3}, o);
        Check.due("NONE", x.work(), 0);
        worked(x, "the first other than 0 above 0", 0, 0, 0, 0, 0, 0, 0, 0, 0, 2, -3, 1);
        feed(x, new int[] {1, 0, 1}, new int[] {0, 1, 1}, o, o, new int[] {1, 1, 1}, o);
        Check.due("NONE", x.work(), 0);
        worked(x, "of three rows", 0, 0, 0, 0, 0, 0, 0, 0, 1, 1, -1, 2);
        feed(x, new int[] {99, 98, 97}, new int[] {97, 99, 98}, new int[] {1, 98, 0}, new int[] {0, 0, 0}, new int[] {999, 0, 0}, new int[] {0, 0, 999});
        x.work();
        feed(x, new int[] {1, 0, 1}, new int[] {0, 1, 1}, o, o, new int[] {1, 1, 2}, o);
        Check.due("WORKED again", x.work(), 1);
        worked(x, "no WITNESS then", 1, 1, 1, 1, 0, 1, 0, 1, 0, 0, 0, 2);
    }

    private static void tellsNoneSuch() {
        GlassHouse x = new GlassHouse();
        for (int what = -1; what <= 4; what++) for (int k = -1; k <= 4; k++) Check.due("before", x.worked(what, k), 0);
        x.salt(0, 0, 3);
        x.salt(4, 0, 3);
        Check.due("WORKED", x.work(), 1);
        for (int k : new int[] {-1, 4, LEAST, MOST}) Check.due("k", x.worked(0, k) + x.worked(1, k) + x.worked(2, k), 0);
        for (int k : new int[] {-1, 0, 3, 4, LEAST, MOST}) Check.due("RANK (any k)", x.worked(3, k), 1);
        for (int what : new int[] {-1, 4, LEAST, MOST}) Check.due("what", x.worked(what, 0), 0);
        x.salt(4, 1, 3);
        Check.due("of what was WORKED latest", x.worked(0, 0) * 10 + x.worked(1, 3), 11);
        Check.due("NONE", x.work(), 0);
        Check.due("no fractions", x.worked(0, 0) + x.worked(1, 0) + x.worked(1, 3), 0);
        Check.due("WITNESS k", x.worked(2, 1) * 10 + x.worked(2, 3) + x.worked(2, -1), 10);
    }

    private static void hasPestsUpToAThousandMillion() {
        GlassHouse x = new GlassHouse();
        for (int pest = -1; pest <= 2; pest++) for (int stage = -1; stage <= 4; stage++) {
            boolean is = pest >= 0 && pest < 2 && stage >= 0 && stage < 4;
            Check.due("0 at first", x.pest(pest, stage), is ? 0 : BAD);
            Check.due("all", x.count(pest, stage, MANY), is ? 1 : BAD);
            Check.due("all", x.pest(pest, stage), is ? MANY : BAD);
            for (int n : new int[] {-1, MANY + 1, LEAST, MOST}) Check.due("n", x.count(pest, stage, n), BAD);
            Check.due("none", x.count(pest, stage, 0), is ? 1 : BAD);
            Check.due("none", x.pest(pest, stage), is ? 0 : BAD);
        }
    }

    private static void hasPartsOf0To1000() {
        GlassHouse x = new GlassHouse();
        for (int pest = -1; pest <= 2; pest++) for (int stage = -1; stage <= 4; stage++) {
            boolean is = pest >= 0 && pest < 2 && stage >= 0 && stage < 4;
            Check.due("0", x.parts(pest, stage, 0, 0, 0), is ? 1 : BAD);
            Check.due("1000", x.parts(pest, stage, 1000, 1000, 1000), is ? 1 : BAD);
            for (int part : new int[] {-1, 1001}) {
                Check.due("each is 0 .. 1000", x.parts(pest, stage, part, 0, 0) + x.parts(pest, stage, 0, part, 0) + x.parts(pest, stage, 0, 0, part),
                    3 * BAD);
            }
        }
    }

    private static void agesNoneOneAndAll() {
        // number, go on, stay; then what stays, and what goes on
        int[][] rows = {{0, 1000, 1000, 0, 0}, {1, 1000, 1000, 0, 1}, {1, 0, 0, 0, 0}, {1, 999, 1000, 1, 0}, {1, 0, 1000, 1, 0}, {1, 0, 999, 0, 0},
            {MANY, 1000, 1000, 500000000, 500000000}, {MANY, 1, 0, 0, 500000}, {MANY, 0, 1, 500000, 0}, {3, 1000, 1000, 1, 2},
            {5, 500, 500, 1, 1}, {2, 500, 500, 0, 1}, {7, 667, 667, 2, 3}};
        for (int[] r : rows) {
            GlassHouse x = new GlassHouse();
            x.parts(1, 1, r[1], r[2], 1000);
            x.count(1, 1, r[0]);
            x.day(1);
            Check.all("SHARES by (go on, stay, 2000 less both)", new long[] {x.pest(1, 0), x.pest(1, 1), x.pest(1, 2), x.pest(1, 3)}, 0, r[3], r[4], 0);
            Check.due("the other PEST", x.pest(0, 1) + x.pest(0, 2), 0);
        }
    }

    private static void sendsOnFromStageToStage() {
        GlassHouse x = new GlassHouse();
        for (int stage = 0; stage < 4; stage++) {
            x.parts(0, stage, 1000, 0, 0);
            x.count(0, stage, 16 << 4 * stage);
        }
        x.day(1);
        Check.all("from what they were; of 3 they are gone", new long[] {x.pest(0, 0), x.pest(0, 1), x.pest(0, 2), x.pest(0, 3)}, 0, 8, 128, 2048);
        x.day(1);
        Check.all("one DAY more", new long[] {x.pest(0, 0), x.pest(0, 1), x.pest(0, 2), x.pest(0, 3)}, 0, 0, 4, 64);
    }

    private static void getsYoung() {
        int[][] rows = {{1, 99, 0}, {1, 100, 1}, {1, 199, 1}, {99, 1, 0}, {100, 1, 1}, {MANY, 100, MANY}, {MANY, 99, 990000000}, {MANY, 101, MANY},
            {MANY, 1000, MANY}, {0, 1000, 0}, {100000001, 1000, MANY}, {99999999, 1000, 999999990}};
        for (int[] r : rows) {
            GlassHouse x = new GlassHouse();
            for (int stage = 0; stage < 3; stage++) x.parts(0, stage, 0, 0, 1000);
            x.parts(0, 3, 0, 0, r[1]);
            x.count(0, 3, r[0]);
            x.count(0, 2, 5);
            x.day(1);
            Check.due("times that one's young by 100, cut", x.pest(0, 0), r[2]);
            Check.due("no others", x.pest(0, 1) + x.pest(0, 2) + x.pest(0, 3), 0);
        }
        GlassHouse x = new GlassHouse();
        x.parts(0, 0, 0, 1000, 0);
        x.parts(0, 3, 0, 0, 100);
        x.count(0, 0, 2);
        x.count(0, 3, MANY - 1);
        x.day(1);
        Check.due("just as many", x.pest(0, 0), MANY);
        x.count(0, 0, 4);
        x.count(0, 3, MANY - 1);
        x.day(1);
        Check.due("what is above is cut", x.pest(0, 0), MANY);
    }

    private static void spraysToAFourth() {
        int[] numbers = {0, 1, 3, 4, 5, 7, 8, MANY};
        int[] want = {0, 0, 0, 1, 1, 1, 2, MANY / 4};
        for (int i = 0; i < numbers.length; i++) {
            for (int pest = 0; pest < 2; pest++) {
                GlassHouse x = new GlassHouse();
                for (int stage = 0; stage < 4; stage++) {
                    x.count(0, stage, numbers[i]);
                    x.count(1, stage, numbers[i]);
                }
                Check.due("SPRAYED", x.spray(pest), 1);
                for (int stage = 0; stage < 4; stage++) {
                    Check.due("a fourth, cut", x.pest(pest, stage), want[i]);
                    Check.due("the other one stays", x.pest(1 - pest, stage), numbers[i]);
                }
            }
        }
        GlassHouse x = new GlassHouse();
        for (int pest : new int[] {-1, 2, LEAST, MOST}) Check.due("BAD", x.spray(pest) * 10 + x.wait1(), 10 * BAD);
    }

    private static void waitsSevenDays() {
        GlassHouse x = new GlassHouse();
        Check.due("there is", x.wait1(), 0);
        x.spray(1);
        for (int day = 0; day <= 9; day++) {
            Check.due("for 7 DAYS", x.wait1(), Math.max(0, 7 - day));
            x.day(1);
        }
        x.spray(0);
        x.day(6);
        Check.due("one DAY yet", x.wait1(), 1);
        x.spray(0);
        x.spray(1);
        Check.due("seven again, no more", x.wait1(), 7);
        x.day(50);
        Check.due("long ago", x.wait1(), 0);
    }

    private static void goesOneTo50Days() {
        GlassHouse x = new GlassHouse();
        for (int n : new int[] {0, -1, 51}) Check.due("n", x.day(n), BAD);
        Check.soFar();
        for (int n : new int[] {LEAST, MOST}) Check.due("n", x.day(n), BAD);
        Check.due("1", x.day(1), 1);
        Check.due("50", x.day(50), 51);
        for (int i = 0; i < 198; i++) x.day(50);
        x.count(0, 0, 9);
        x.parts(0, 0, 0, 1000, 0);
        x.spray(1);
        Check.due("9951", x.told(7), 9951);
        Check.due("above 10000", x.day(50), FULL);
        Check.all("nothing changed", new long[] {x.told(7), x.pest(0, 0), x.wait1()}, 9951, 9, 7);
        Check.due("just 10000", x.day(49), 10000);
        for (int n : new int[] {1, 50}) Check.due("no more", x.day(n), FULL);
        Check.due("BAD ahead of FULL", x.day(0) + x.day(51), 2 * BAD);
        Check.due("told", x.told(7), 10000);
    }
}
