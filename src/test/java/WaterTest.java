import java.math.BigInteger;
import java.util.Arrays;
import java.util.Random;

/** Promises 54 to 61: shares, quotients, reals, means and feeds. */
public final class WaterTest {
    private static final int NULL = -11, INDEX = -12, CAST = -14, ZERO = -16;
    private static final int BAD = GlassHouse.BAD, NONE = GlassHouse.NONE, NO = GlassHouse.NO;
    private static final long NO_NUMBER = 0x7FF8000000000000L;

    public static void main(String[] args) {
        Random random = new Random(54);
        shares();
        sharesAtRandom(random);
        divides();
        compares();
        comparesAtRandom(random);
        tellsReals();
        tellsRealsAtRandom(random);
        tellsWholeMeans();
        keepsSalts();
        worksFeeds();
        worksFeedsAtRandom(random);
        Check.end();
    }

    private static void shares() {
        GlassHouse x = new GlassHouse();
        ints(x, 0, 1, 1, 1);
        Check.due("shares", x.shares(0, 8, 1), 1);
        Check.all("rests alike: lesser places", cells(x, 1), 3, 3, 2);
        Check.due("form", x.form(1), 5);
        ints(x, 0, 1, 5, 3, 0);
        x.shares(0, 10, 1);
        Check.all("1.1, 5.5, 3.3", cells(x, 1), 1, 6, 3, 0);
        x.shares(0, 0, 1);
        Check.all("of none", cells(x, 1), 0, 0, 0, 0);
        ints(x, 0, Integer.MAX_VALUE, Integer.MAX_VALUE, Integer.MAX_VALUE);
        x.shares(0, 1000000000, 0);
        Check.all("great ones, into the same bin", cells(x, 0), 333333334, 333333333, 333333333);
        ints(x, 0, 4, -1);
        int made = x.told(1);
        Check.due("below 0", x.shares(0, 1, 1), NO);
        ints(x, 0, 0, 0);
        Check.due("all are 0", x.shares(0, 1, 1), NO);
        ints(x, 0);
        Check.due("there is none", x.shares(0, 1, 1), NO);
        Check.due("three rows were made, no more", x.told(1), made + 2);
        x.row(2, 5, 2);
        Check.due("longs", x.shares(2, 1, 1), CAST);
        Check.due("nothing", x.shares(9, 1, 1), NULL);
        Check.all("bad", new long[] {x.shares(16, 1, 1), x.shares(0, 1, 16), x.shares(0, -1, 1), x.shares(0, 1000000001, 1),
            x.shares(2, -1, 1)}, BAD, BAD, BAD, BAD, BAD);
    }

    private static void sharesAtRandom(Random random) {
        for (int round = 0; round < 300; round++) {
            GlassHouse x = new GlassHouse();
            int many = 1 + random.nextInt(40);
            int[] by = new int[many];
            long sum = 0;
            for (int i = 0; i < many; i++) {
                by[i] = random.nextInt(random.nextBoolean() ? 5 : Integer.MAX_VALUE);
                sum += by[i];
            }
            ints(x, 0, by);
            int n = random.nextInt(random.nextBoolean() ? 100 : 1000000001);
            Check.due("shares", x.shares(0, n, 1), sum == 0 ? NO : 1);
            if (sum == 0) continue;
            Integer[] order = new Integer[many];
            BigInteger[] rest = new BigInteger[many];
            long[] want = new long[many];
            long left = n;
            for (int i = 0; i < many; i++) {
                BigInteger[] parts = BigInteger.valueOf(n).multiply(BigInteger.valueOf(by[i])).divideAndRemainder(BigInteger.valueOf(sum));
                want[i] = parts[0].longValueExact();
                rest[i] = parts[1];
                order[i] = i;
                left -= want[i];
            }
            Arrays.sort(order, (p, q) -> rest[q].compareTo(rest[p]));
            for (int i = 0; i < left; i++) want[order[i]]++;
            Check.all("shares", cells(x, 1), want);
        }
    }

    private static void divides() {
        GlassHouse x = new GlassHouse();
        Check.all("ints", new long[] {x.quotient(4, -7, 2, 0), x.quotient(4, -7, 2, 1), x.quotient(4, 7, -2, 0),
            x.quotient(4, Integer.MIN_VALUE, -1, 0), x.quotient(4, Integer.MIN_VALUE, -1, 1), x.quotient(4, 1L << 32 | 9, 1L << 40 | 4, 0)},
            -3, -1, -3, Integer.MIN_VALUE, 0, 2);
        Check.all("longs", new long[] {x.quotient(5, Long.MIN_VALUE, -1, 0), x.quotient(5, Long.MIN_VALUE, -1, 1),
            x.quotient(5, 1L << 40, 3, 0), x.quotient(5, -(1L << 40), 3, 1)}, Long.MIN_VALUE, 0, (1L << 40) / 3, -1);
        Check.due("no fault yet", x.told(2), 0);
        Check.due("by 0", x.quotient(5, 5, 0, 0), 0);
        Check.due("ZERO", x.fault(), 6);
        Check.due("by 0 in ints", x.quotient(4, 5, 1L << 32, 1), 0);
        Check.due("two faults", x.told(2), 2);
        Check.all("bad", new long[] {x.quotient(3, 8, 2, 0), x.quotient(6, 8, 2, 0), x.quotient(4, 9, 2, 2), x.quotient(4, 9, 2, -1),
            x.quotient(7, 8, 0, 0)}, 0, 0, 0, 0, 0);
        Check.due("no more faults", x.told(2), 2);
    }

    private static void compares() {
        GlassHouse x = new GlassHouse();
        x.row(0, 7, 2);
        x.row(1, 6, 2);
        x.row(2, 4, 1);
        Check.due("like", x.compare(7, 0, 0, 0, 1), 2 + 8 + 16);
        x.put(0, 7, 0, Long.MIN_VALUE);
        Check.due("-0.0 is like 0.0", x.compare(7, 0, 0, 0, 1), 26);
        x.put(0, 7, 1, NO_NUMBER);
        Check.due("no number is unlike itself", x.compare(7, 0, 1, 0, 1), 32);
        x.put(1, 6, 0, Float.floatToIntBits(-1e-45f));
        Check.due("less", x.compare(6, 1, 0, 1, 1), 1 + 2 + 32);
        Check.due("greater", x.compare(6, 1, 1, 1, 0), 4 + 8 + 32);
        Check.all("faults", new long[] {x.compare(7, 1, 0, 0, 0), x.compare(7, 0, 0, 2, 0), x.compare(7, 9, 0, 1, 0),
            x.compare(7, 0, 9, 1, 0), x.compare(7, 9, 0, 0, 9), x.compare(7, 0, 2, 9, 0), x.compare(7, 0, 0, 9, 0),
            x.compare(7, 0, -1, 0, 0), x.compare(7, 0, 1, 0, 2)}, CAST, CAST, CAST, CAST, NULL, INDEX, NULL, INDEX, INDEX);
        Check.all("bad", new long[] {x.compare(5, 0, 0, 0, 0), x.compare(8, 0, 0, 0, 0), x.compare(7, 16, 0, 0, 0),
            x.compare(7, 0, 0, -1, 0)}, BAD, BAD, BAD, BAD);
    }

    private static void comparesAtRandom(Random random) {
        GlassHouse x = null;
        for (int round = 0; round < 3000; round++) {
            if (round % 80 == 0) {
                x = new GlassHouse();
                x.row(0, 6, 2);
                x.row(1, 7, 2);
            }
            int a = floatBits(random);
            int b = random.nextInt(3) == 0 ? a : floatBits(random);
            x.put(0, 6, 0, a);
            x.put(0, 6, 1, b);
            Check.due("floats", x.compare(6, 0, 0, 0, 1), stand(Float.intBitsToFloat(a), Float.intBitsToFloat(b)));
            long c = doubleBits(random);
            long d = random.nextInt(3) == 0 ? c ^ 1L << 63 : doubleBits(random);
            x.put(1, 7, 0, c);
            x.put(1, 7, 1, d);
            Check.due("doubles", x.compare(7, 1, 0, 1, 1), stand(Double.longBitsToDouble(c), Double.longBitsToDouble(d)));
        }
    }

    private static int stand(double a, double b) {
        return (a < b ? 1 : 0) + (a <= b ? 2 : 0) + (a > b ? 4 : 0) + (a >= b ? 8 : 0) + (a == b ? 16 : 0) + (a != b ? 32 : 0);
    }

    private static void tellsReals() {
        GlassHouse x = new GlassHouse();
        x.row(0, 7, 5);
        x.row(1, 6, 0);
        for (int what = 0; what < 4; what++) Check.due("none", x.real(6, 1, what), NO_NUMBER);
        double[] cells = {3.5, Double.NaN, -0.0, 0.0, 7.25};
        for (int i = 0; i < 5; i++) x.put(0, 7, i, bits(cells[i]));
        Check.all("least, greatest, mean, middle", new long[] {x.real(7, 0, 0), x.real(7, 0, 1), x.real(7, 0, 2), x.real(7, 0, 3)},
            bits(-0.0), bits(7.25), bits(10.75 / 4), bits(0.0));
        Check.due("no faults", x.told(2), 0);
        x.row(2, 7, 2);
        x.put(2, 7, 0, bits(Double.POSITIVE_INFINITY));
        x.put(2, 7, 1, bits(Double.NEGATIVE_INFINITY));
        Check.due("endless ones of both signs", x.real(7, 2, 2), NO_NUMBER);
        x.put(2, 7, 0, bits(-Double.MAX_VALUE));
        x.put(2, 7, 1, bits(-Double.MAX_VALUE));
        Check.due("beyond all", x.real(7, 2, 2), bits(Double.NEGATIVE_INFINITY));
        x.row(3, 7, 1);
        x.put(3, 7, 0, bits(-0.0));
        Check.due("from 0.0 on", x.real(7, 3, 2), bits(0.0));
        x.row(4, 7, 3);
        x.put(4, 7, 0, bits(-Double.MIN_VALUE));
        Check.due("cut to -0.0", x.real(7, 4, 2), bits(-0.0));
        for (double mean : new double[] {1.0, 0.1, -1.0, 2.0, 0.5, 4503599627370496.0, 9007199254740991.0, Double.MIN_NORMAL}) {
            x.put(3, 7, 0, bits(mean));
            Check.due("the mean of one", x.real(7, 3, 2), bits(mean));
        }
        int faults = x.told(2);
        x.put(0, 7, 2, bits(6));
        x.put(0, 7, 3, bits(6));
        Check.all("bad", new long[] {x.real(5, 0, 0), x.real(8, 0, 0), x.real(7, 16, 0), x.real(7, 0, 4), x.real(7, 0, -1)},
            0, 0, 0, 0, 0);
        Check.due("no faults", x.told(2), faults);
        Check.due("CAST", x.real(6, 0, 0) + x.fault(), 4);
        Check.due("NULL", x.real(6, 9, 0) + x.fault(), 1);
    }

    private static void tellsRealsAtRandom(Random random) {
        GlassHouse x = new GlassHouse();
        for (int round = 0; round < 1500; round++) {
            boolean narrow = random.nextBoolean();
            int many = 1 + random.nextInt(random.nextInt(4) == 0 ? 40 : 4);
            int lane = narrow ? 6 : 7;
            x = round % 10 == 0 ? new GlassHouse() : x;
            x.row(0, lane, many);
            double[] numbers = new double[many];
            int found = 0;
            double sum = 0.0;
            for (int i = 0; i < many; i++) {
                long cell = narrow ? floatBits(random) : doubleBits(random);
                double d = narrow ? Float.intBitsToFloat((int) cell) : Double.longBitsToDouble(cell);
                x.put(0, lane, i, cell);
                if (Double.isNaN(d)) continue;
                numbers[found++] = d;
                sum += d;
            }
            Arrays.sort(numbers, 0, found);
            double[] want = found == 0 ? new double[] {Double.NaN, Double.NaN, Double.NaN, Double.NaN}
                : new double[] {numbers[0], numbers[found - 1], sum / found, numbers[(found - 1) / 2]};
            for (int what = 0; what < 4; what++) Check.due("real " + what, x.real(lane, 0, what), bits(want[what]));
        }
    }

    private static int floatBits(Random random) {
        switch (random.nextInt(5)) {
            case 0: return random.nextInt();
            case 1: return random.nextInt(0x1000000);
            case 2: return Float.floatToIntBits((float) random.nextGaussian() * 50);
            case 3: return random.nextBoolean() ? 0 : 1 << 31;
            default: return 0x7F7FFFFF + random.nextInt(3) | random.nextInt(2) << 31;
        }
    }

    private static long doubleBits(Random random) {
        switch (random.nextInt(6)) {
            case 0: return random.nextLong();
            case 1: return random.nextLong() >>> 11 + random.nextInt(3) | (long) random.nextInt(2) << 63;
            case 2: return bits(random.nextGaussian() * 50);
            case 3: return random.nextBoolean() ? 0 : 1L << 63;
            case 4: return random.nextInt(8) | (long) random.nextInt(2) << 63;
            default: return 0x7FEFFFFFFFFFFFFFL - random.nextInt(2) * 3L + random.nextInt(2) | (long) random.nextInt(2) << 63;
        }
    }

    private static void tellsWholeMeans() {
        GlassHouse x = new GlassHouse();
        ints(x, 0, -1, -2, -2);
        Check.due("mean", x.wholeMean(0), 1);
        Check.due("cut", x.answer(), -1);
        ints(x, 0, Integer.MAX_VALUE, Integer.MAX_VALUE, Integer.MAX_VALUE - 1);
        x.wholeMean(0);
        Check.due("does not wrap", x.answer(), Integer.MAX_VALUE - 1);
        ints(x, 1);
        Check.due("of none", x.wholeMean(1), ZERO);
        x.row(2, 5, 1);
        Check.all("faults", new long[] {x.wholeMean(2), x.wholeMean(9), x.wholeMean(16), x.wholeMean(-1)}, CAST, NULL, BAD, BAD);
        Check.due("the answer stays", x.answer(), Integer.MAX_VALUE - 1);
    }

    private static void keepsSalts() {
        GlassHouse x = new GlassHouse();
        for (int salt = 0; salt < 6; salt++) {
            int most = salt < 4 ? 99 : 999;
            for (int j = 0; j < 3; j++) {
                Check.due("first", x.salt(salt, j, most), 0);
                Check.due("above", x.salt(salt, j, most + 1), BAD);
                Check.due("below", x.salt(salt, j, -1), BAD);
                Check.due("what it was", x.salt(salt, j, j), most);
                Check.due("what it was", x.salt(salt, j, 0), j);
            }
        }
        Check.all("bad", new long[] {x.salt(6, 0, 0), x.salt(-1, 0, 0), x.salt(0, 3, 0), x.salt(0, -1, 0)}, BAD, BAD, BAD, BAD);
    }

    private static void worksFeeds() {
        GlassHouse x = new GlassHouse();
        for (int what = 0; what < 4; what++) Check.due("before", x.worked(what, 0), 0);
        Check.due("nothing wished", x.work(), 1);
        Check.all("zeros", worked(x), 0, 1, 0, 1, 0, 1, 0, 1, 0, 0, 0, 0);
        x.salt(4, 1, 7);
        Check.due("none", x.work(), 0);
        Check.all("a witness", worked(x), 0, 0, 0, 0, 0, 0, 0, 0, 0, 1, 0, 0);
        feed(x, new int[][] {{2, 0, 0}, {0, 3, 0}, {0, 0, 4}, {1, 1, 1}, {5, 6, 7}, {0, 0, 10}});
        Check.due("one is below 0", x.work(), 2);
        Check.all("fractions", worked(x), 5, 2, 2, 1, -3, 4, 0, 1, 0, 0, 0, 3);
        feed(x, new int[][] {{1, 2, 3}, {2, 4, 6}, {0, 0, 0}, {0, 1, 0}, {1, 5, 3}, {0, 0, 0}});
        Check.due("worked", x.work(), 1);
        Check.all("fractions", worked(x), 1, 1, 0, 1, 0, 1, 3, 1, 0, 0, 0, 2);
        feed(x, new int[][] {{2, 4, 6}, {0, 0, 0}, {0, 0, 0}, {0, 0, 0}, {1, 0, 0}, {0, 3, 0}});
        Check.due("none", x.work(), 0);
        Check.all("w: 2 times the first less the second", worked(x), 0, 0, 0, 0, 0, 0, 0, 0, 2, -1, 0, 1);
        x.salt(0, 0, 9);
        Check.due("as it was worked", x.worked(2, 0), 2);
        Check.all("none such", new long[] {x.worked(2, 3), x.worked(2, -1), x.worked(4, 0), x.worked(-1, 0), x.worked(3, -7),
            x.worked(3, 99)}, 0, 0, 0, 0, 1, 1);
        feed(x, new int[][] {{0, 1, 0}, {1, 0, 0}, {0, 0, 0}, {0, 0, 0}, {3, 4, 0}, {0, 0, 0}});
        Check.due("rows change places", x.work(), 1);
        Check.all("fractions", worked(x), 4, 1, 3, 1, 0, 1, 0, 1, 0, 0, 0, 2);
        Check.all("none such", new long[] {x.worked(0, 4), x.worked(1, 4), x.worked(1, -1)}, 0, 0, 0);
    }

    private static void worksFeedsAtRandom(Random random) {
        GlassHouse x = new GlassHouse();
        int[] answers = new int[3];
        for (int round = 0; round < 20000; round++) {
            int most = random.nextBoolean() ? 3 : 100;
            int[][] f = new int[6][3];
            for (int s = 0; s < 6; s++) {
                for (int j = 0; j < 3; j++) f[s][j] = random.nextInt(s < 4 ? most : most == 3 ? 3 : 1000);
            }
            if (random.nextBoolean()) f[2] = f[0].clone();
            if (random.nextInt(3) == 0) for (int s = 0; s < 4; s++) f[s][2] = f[s][0];
            if (random.nextInt(3) == 0) for (int s = 0; s < 4; s++) f[s][1] = Math.min(99, f[s][0] * 2);
            if (random.nextInt(3) == 0) dependRows(random, f);
            if (round % 10 == 0) x = new GlassHouse();
            feed(x, f);
            int answer = x.work();
            answers[answer]++;
            Rational[][] rows = laid(f);
            int[] pivots = {NONE, NONE, NONE};
            int rank = eliminate(rows, pivots);
            Check.due("rank", x.worked(3, 0), rank);
            int none = NONE;
            for (int r = 2; r >= rank; r--) if (rows[r][4].up.signum() != 0) none = r;
            if (none != NONE) {
                Check.due("none", answer, 0);
                compareWitness(x, f, rows[none]);
                continue;
            }
            int want = 1;
            Rational[] solved = new Rational[4];
            Arrays.fill(solved, new Rational(BigInteger.ZERO, BigInteger.ONE));
            for (int r = 0; r < rank; r++) {
                solved[pivots[r]] = rows[r][4];
                if (rows[r][4].up.signum() < 0) want = 2;
            }
            Check.due("worked", answer, want);
            for (int s = 0; s < 4; s++) {
                Check.due("upper", x.worked(0, s), solved[s].up.longValueExact());
                Check.due("lower", x.worked(1, s), solved[s].low.longValueExact());
            }
        }
        for (int a = 0; a < 3; a++) Check.holds("answer " + a + " came", answers[a] > 500);
    }

    /** One row becomes a sum of fractions of the two others, so that a witness needs all three, in unlike parts. */
    private static void dependRows(Random random, int[][] f) {
        int a = random.nextInt(3);
        int b = (a + 1) % 3;
        int c = (a + 2) % 3;
        int[] parts = new int[4];
        for (int k = 0; k < 4; k++) parts[k] = 1 + random.nextInt(9);
        for (int s = 0; s < 4; s++) {
            int u = random.nextInt(6);
            int v = random.nextInt(6);
            f[s][a] = parts[0] * u + parts[1] * v;
            f[s][b] = parts[2] * u;
            f[s][c] = parts[3] * v;
        }
    }

    private static void compareWitness(GlassHouse x, int[][] f, Rational[] row) {
        long[] w = {x.worked(2, 0), x.worked(2, 1), x.worked(2, 2)};
        for (int s = 0; s < 4; s++) Check.due("w times rows", w[0] * f[s][0] + w[1] * f[s][1] + w[2] * f[s][2], 0);
        long right = 0;
        for (int j = 0; j < 3; j++) right += w[j] * (f[4][j] - f[5][j]);
        Check.holds("w times right sides", right != 0);
        BigInteger common = BigInteger.ZERO;
        for (long one : w) common = common.gcd(BigInteger.valueOf(one));
        Check.due("divisor", common.longValueExact(), 1);
        long first = w[0] != 0 ? w[0] : w[1] != 0 ? w[1] : w[2];
        Check.holds("first above 0", first > 0);
        for (int i = 0; i < 3; i++) {
            for (int j = 0; j < 3; j++) {
                BigInteger one = row[5 + i].up.multiply(row[5 + j].low).multiply(BigInteger.valueOf(w[j]));
                BigInteger two = row[5 + j].up.multiply(row[5 + i].low).multiply(BigInteger.valueOf(w[i]));
                Check.holds("in the ratio of how it was made", one.equals(two));
            }
        }
    }

    private static Rational[][] laid(int[][] f) {
        Rational[][] rows = new Rational[3][8];
        for (int j = 0; j < 3; j++) {
            for (int s = 0; s < 4; s++) rows[j][s] = Rational.of(f[s][j]);
            rows[j][4] = Rational.of(f[4][j] - f[5][j]);
            for (int k = 0; k < 3; k++) rows[j][5 + k] = Rational.of(j == k ? 1 : 0);
        }
        return rows;
    }

    private static int eliminate(Rational[][] rows, int[] pivots) {
        int rank = 0;
        for (int column = 0; column < 4; column++) {
            for (int r = rank; r < 3; r++) {
                if (rows[r][column].up.signum() == 0) continue;
                Rational[] row = rows[r];
                rows[r] = rows[rank];
                Rational by = row[column];
                for (int c = 0; c < 8; c++) row[c] = row[c].over(by);
                rows[rank] = row;
                for (int other = 0; other < 3; other++) {
                    if (other == rank) continue;
                    Rational times = rows[other][column];
                    for (int c = 0; c < 8; c++) rows[other][c] = rows[other][c].less(times.times(row[c]));
                }
                pivots[rank++] = column;
                break;
            }
        }
        return rank;
    }

    private static final class Rational {
        final BigInteger up;
        final BigInteger low;

        Rational(BigInteger up, BigInteger low) {
            BigInteger common = up.gcd(low).multiply(BigInteger.valueOf(low.signum()));
            this.up = up.divide(common);
            this.low = low.divide(common);
        }

        static Rational of(long whole) {
            return new Rational(BigInteger.valueOf(whole), BigInteger.ONE);
        }

        Rational over(Rational by) {
            return new Rational(up.multiply(by.low), low.multiply(by.up));
        }

        Rational times(Rational by) {
            return new Rational(up.multiply(by.up), low.multiply(by.low));
        }

        Rational less(Rational by) {
            return new Rational(up.multiply(by.low).subtract(by.up.multiply(low)), low.multiply(by.low));
        }
    }

    private static void feed(GlassHouse x, int[][] f) {
        for (int s = 0; s < 6; s++) for (int j = 0; j < 3; j++) x.salt(s, j, f[s][j]);
    }

    private static long[] worked(GlassHouse x) {
        long[] got = new long[12];
        for (int k = 0; k < 4; k++) {
            got[2 * k] = x.worked(0, k);
            got[2 * k + 1] = x.worked(1, k);
        }
        for (int k = 0; k < 3; k++) got[8 + k] = x.worked(2, k);
        got[11] = x.worked(3, 0);
        return got;
    }

    private static long bits(double x) {
        return Double.doubleToLongBits(x);
    }

    private static void ints(GlassHouse x, int bin, int... cells) {
        x.row(bin, 4, cells.length);
        for (int i = 0; i < cells.length; i++) x.put(bin, 4, i, cells[i]);
    }

    private static long[] cells(GlassHouse x, int bin) {
        long[] told = new long[x.size(bin, 0)];
        for (int i = 0; i < told.length; i++) told[i] = x.get(bin, 5, i);
        return told;
    }
}
