import java.util.Arrays;
import java.util.Random;

/** Promises 44 to 53: probes, votes, weather, wishes and air; at the end against a second reading of the document. */
public final class AirTest {
    private static final int BAD = GlassHouse.BAD, FULL = GlassHouse.FULL;
    private static final long NO_NUMBER = 0x7FF8000000000000L;

    public static void main(String[] args) {
        takesReadings();
        takesParts();
        votes();
        sendsOut();
        takesInAgain();
        findsStuck();
        findsStuckByAny();
        keepsWeather();
        keepsMarks();
        tellsWishes();
        countsMinutes();
        tellsAir();
        fallsAsDew();
        looksUpByCutWarmth();
        bindsVapour();
        steersByStorm();
        Random random = new Random(7);
        for (int i = 0; i < 1500; i++) oneSeason(random);
        Check.end();
    }

    private static long bits(double x) {
        return Double.doubleToLongBits(x);
    }

    private static void takesReadings() {
        GlassHouse x = new GlassHouse();
        for (int p = 0; p < 9; p++) Check.due("read", x.read(p, bits(p)), 1);
        Check.all("bad", new long[] {x.read(9, 0), x.read(-1, 0), x.probe(9, 0), x.probe(-1, 0), x.probe(0, 5), x.probe(0, -1)},
            BAD, BAD, BAD, BAD, BAD, BAD);
        Check.due("nothing before a minute", x.voted(0), NO_NUMBER);
        Check.due("none in a row yet", x.probe(0, 4), 0);
        x.minute(1);
        for (int h = 0; h < 3; h++) Check.due("middle", x.voted(h), bits(h + 3));
        Check.due("bad", x.voted(3), 0);
        Check.due("bad", x.voted(-1), 0);
    }

    private static void takesParts() {
        GlassHouse x = new GlassHouse();
        Check.all("part", new long[] {x.part(bits(0.0)), x.part(bits(-0.0)), x.part(bits(Double.POSITIVE_INFINITY)),
            x.part(1)}, 1, 1, 1, 1);
        Check.all("bad", new long[] {x.part(NO_NUMBER), x.part(-1L), x.part(bits(-1e-320)), x.part(bits(-1)),
            x.part(bits(Double.NEGATIVE_INFINITY))}, BAD, BAD, BAD, BAD, BAD);
        GlassHouse first = new GlassHouse();
        for (int p = 0; p < 9; p += 3) first.read(p, bits(p == 0 ? 22.0 : p == 3 ? 20.0 : 17.999999));
        first.minute(1);
        Check.all("2.0 at first", new long[] {first.probe(0, 3), first.probe(3, 3), first.probe(6, 2)}, 1, 1, 1);
        x.part(bits(0.5));
        for (int p = 0; p < 9; p += 3) x.read(p, bits(p * 0.25));
        x.part(bits(0.75));
        x.minute(2);
        Check.all("0.75 apart is near", new long[] {x.probe(0, 2), x.probe(0, 3), x.probe(6, 3)}, 0, 2, 2);
        x.part(bits(0.7499));
        x.minute(1);
        Check.all("now off", new long[] {x.probe(0, 2), x.probe(0, 3), x.probe(3, 3)}, 1, 0, 3);
    }

    private static void votes() {
        GlassHouse x = new GlassHouse();
        x.minute(1);
        Check.due("none", x.voted(0), NO_NUMBER);
        x.read(6, bits(4));
        x.minute(1);
        Check.due("one", x.voted(0), bits(4));
        x.read(0, bits(3));
        x.minute(1);
        Check.due("the lesser of two", x.voted(0), bits(3));
        Check.due("with two none is near", x.probe(0, 3) + x.probe(6, 3), 0);
        x.read(0, bits(0.0));
        x.read(3, bits(-0.0));
        x.read(6, bits(0.0));
        x.minute(1);
        Check.due("-0.0 is the lesser", x.voted(0), bits(0.0));
        x.read(6, bits(-5));
        x.minute(1);
        Check.due("and counts as such", x.voted(0), bits(-0.0));
        x.read(6, bits(Double.NaN));
        x.read(0, bits(Double.POSITIVE_INFINITY));
        x.read(3, bits(Double.POSITIVE_INFINITY));
        x.minute(1);
        Check.due("endless ones are numbers", x.voted(0), bits(Double.POSITIVE_INFINITY));
        x.read(6, bits(Double.POSITIVE_INFINITY));
        x.minute(2);
        Check.due("of two alike it is 0", x.probe(0, 3), 2);
        x.read(6, bits(Double.NEGATIVE_INFINITY));
        x.minute(1);
        Check.due("these are far apart", x.probe(6, 2), 1);
    }

    private static void sendsOut() {
        GlassHouse x = new GlassHouse();
        for (int p = 1; p < 9; p += 3) x.read(p, bits(p == 7 ? 30 : 20));
        x.minute(2);
        Check.all("two minutes", new long[] {x.probe(7, 0), x.probe(7, 1), x.probe(7, 2), x.probe(7, 3)}, 1, 0, 2, 0);
        x.minute(1);
        Check.all("three", new long[] {x.probe(7, 0), x.probe(7, 1), x.probe(7, 2), x.probe(7, 3), x.probe(7, 4)}, 0, 1, 0, 0, 3);
        x.minute(1);
        Check.due("it is still looked at", x.probe(7, 2), 1);
        Check.due("others", x.probe(1, 3), 4);
        x.read(1, NO_NUMBER);
        x.minute(1);
        Check.all("two that read", new long[] {x.probe(7, 2), x.probe(4, 3), x.probe(1, 4)}, 0, 0, 1);
        Check.due("by the one that is in", x.voted(1), bits(20));
        x.read(4, NO_NUMBER);
        x.minute(1);
        Check.due("one that is out is no vote", x.voted(1), NO_NUMBER);
    }

    private static void takesInAgain() {
        GlassHouse x = new GlassHouse();
        for (int p = 0; p < 9; p += 3) x.read(p, bits(p == 0 ? 30 : 20));
        x.minute(3);
        Check.due("out", x.probe(0, 0), 0);
        x.read(0, bits(22));
        x.minute(4);
        Check.all("four near", new long[] {x.probe(0, 0), x.probe(0, 3)}, 0, 4);
        x.minute(1);
        Check.all("five near", new long[] {x.probe(0, 0), x.probe(0, 1), x.probe(0, 2), x.probe(0, 3)}, 1, 0, 0, 0);
        x.minute(6);
        Check.due("six more", x.probe(0, 3), 6);
    }

    private static void findsStuck() {
        GlassHouse x = new GlassHouse();
        for (int p = 0; p < 9; p += 3) x.read(p, bits(20));
        x.minute(7);
        x.read(0, bits(20.5));
        x.minute(1);
        Check.all("eight alike, another turned", new long[] {x.probe(3, 0), x.probe(3, 1), x.probe(3, 3), x.probe(3, 4),
            x.probe(6, 1), x.probe(0, 0), x.probe(0, 4)}, 0, 2, 0, 8, 2, 1, 1);
        Check.due("by the value of that minute", x.voted(0), bits(20));
        x.minute(4);
        Check.all("near again", new long[] {x.probe(3, 3), x.probe(3, 0)}, 4, 0);
        x.minute(1);
        Check.due("five near: in, as none turned", x.probe(3, 0), 1);
        GlassHouse y = new GlassHouse();
        for (int p = 0; p < 9; p += 3) y.read(p, bits(20));
        y.minute(6);
        y.read(0, bits(20.5));
        y.minute(1);
        Check.due("seven alike are not stuck", y.probe(3, 0), 1);
        y.minute(5);
        Check.due("none turned", y.probe(3, 0) * 100 + y.probe(3, 4), 112);
        GlassHouse z = new GlassHouse();
        for (int p = 0; p < 9; p += 3) z.read(p, bits(p == 0 ? 50 : 20));
        z.minute(7);
        Check.due("far", z.probe(0, 1), 1);
        z.read(3, bits(20.25));
        z.minute(1);
        Check.due("one that is out may be stuck", z.probe(0, 1), 2);
    }

    private static void findsStuckByAny() {
        GlassHouse x = new GlassHouse();
        x.read(2, bits(1));
        x.minute(9);
        Check.due("no number, nine times", x.probe(5, 4), 9);
        x.read(5, bits(Double.longBitsToDouble(0x7FF0000000000007L)));
        x.minute(1);
        Check.all("no number turned to no number", new long[] {x.probe(2, 0), x.probe(5, 4)}, 1, 10);
        x.read(5, bits(3));
        x.minute(1);
        Check.all("from no number on", new long[] {x.probe(2, 1), x.probe(5, 0), x.probe(8, 0)}, 2, 1, 1);
        GlassHouse y = new GlassHouse();
        y.minute(1);
        for (int i = 0; i < 8; i++) {
            y.read(0, bits(1));
            y.read(1, bits(i));
            y.minute(1);
        }
        Check.due("other houses do not count", y.probe(0, 0), 1);
        GlassHouse z = new GlassHouse();
        z.read(0, bits(1));
        z.minute(8);
        z.read(3, bits(1));
        z.read(3, NO_NUMBER);
        z.minute(1);
        Check.due("what came and went between minutes is nothing", z.probe(0, 0), 1);
    }

    private static void keepsWeather() {
        GlassHouse x = new GlassHouse();
        int[] least = {0, -40000, 0, 0, 0};
        int[] most = {1000, 60000, 40000, 1, 1};
        int[] first = {0, 10000, 5000, 0, 0};
        for (int what = 0; what < 5; what++) {
            Check.due("below", x.weather(what, least[what] - 1), -100000);
            Check.due("above", x.weather(what, most[what] + 1), -100000);
            Check.due("first", x.weather(what, most[what]), first[what]);
            Check.due("most", x.weather(what, least[what]), most[what]);
            Check.due("least", x.weather(what, least[what]), least[what]);
        }
        Check.due("what", x.weather(5, 0), -100000);
        Check.due("what", x.weather(-1, 0), -100000);
    }

    private static void keepsMarks() {
        GlassHouse x = new GlassHouse();
        Check.due("mark", x.mark(2, 0, -50000), 1);
        Check.due("mark", x.mark(2, 1, 60000), 2);
        Check.due("not above", x.mark(2, 1, 0), BAD);
        for (int i = 3; i <= 6; i++) Check.due("mark", x.mark(2, 1430 + i, 0), i);
        Check.due("seventh", x.mark(2, 1439, 0), FULL);
        Check.due("BAD ahead of FULL", x.mark(2, 1440, 0), BAD);
        Check.due("BAD ahead of FULL", x.mark(2, 1436, 0), BAD);
        Check.all("bad", new long[] {x.mark(3, 0, 0), x.mark(-1, 0, 0), x.mark(0, -1, 0), x.mark(0, 1440, 0),
            x.mark(0, 0, 60001), x.mark(0, 0, -50001)}, BAD, BAD, BAD, BAD, BAD, BAD);
        Check.due("unmark", x.unmark(2), 6);
        Check.due("unmark none", x.unmark(2), 0);
        Check.due("unmark bad", x.unmark(3), BAD);
        Check.due("unmark bad", x.unmark(-1), BAD);
        Check.due("anew", x.mark(2, 0, 0), 1);
    }

    private static void tellsWishes() {
        GlassHouse x = new GlassHouse();
        Check.due("none", x.wish(0, 0), -100001);
        Check.all("bad", new long[] {x.wish(3, 0), x.wish(-1, 0), x.wish(0, 1440), x.wish(0, -1)}, -100000, -100000, -100000,
            -100000);
        x.mark(0, 700, -12345);
        Check.all("one alone", new long[] {x.wish(0, 0), x.wish(0, 700), x.wish(0, 1439)}, -12345, -12345, -12345);
        x.mark(1, 10, 100);
        x.mark(1, 13, 0);
        x.mark(1, 1430, 1000);
        Check.all("lines", new long[] {x.wish(1, 10), x.wish(1, 11), x.wish(1, 12), x.wish(1, 13), x.wish(1, 1430)},
            100, 66, 33, 0, 1000);
        Check.all("round midnight", new long[] {x.wish(1, 1431), x.wish(1, 1439), x.wish(1, 0), x.wish(1, 9)},
            955, 595, 550, 145);
    }

    private static void countsMinutes() {
        GlassHouse x = new GlassHouse();
        Check.all("bad", new long[] {x.minute(0), x.minute(101), x.minute(-1)}, BAD, BAD, BAD);
        Check.due("one", x.minute(1), 1);
        Check.due("hundred", x.minute(100), 101);
        Check.due("told", x.told(0), 101);
        // No 512 calls come so far: that the limit is here can only be seen behind what is promised.
        for (int i = 0; i < 998; i++) x.minute(100);
        Check.due("up to the last", x.minute(99), 100000);
        Check.due("full", x.minute(1), FULL);
        Check.due("BAD ahead of FULL", x.minute(0), BAD);
    }

    private static void tellsAir() {
        GlassHouse x = new GlassHouse();
        Check.all("bad", new long[] {x.air(3, 0), x.air(-1, 0), x.air(0, 11), x.air(0, -1)}, 0, 0, 0, 0);
        x.weather(0, 1000);
        x.minute(1);
        // VENT 10, PIPE 10: IN 125 + 50, LOST 10000 * 12 / 200, WET 32, GONE 3000 * 10 / 80
        long[] got = new long[11];
        for (int what = 0; what < 11; what++) got[what] = x.air(2, what);
        Check.all("a minute", got, 20000 + 175 - 600, 8000 + 32 - 375, 0, 10, 10, 0, 175, 600, 32, 375, 0);
        x.minute(3);
        Check.all("vent 10, pipe 30", new long[] {x.air(0, 3), x.air(0, 4)}, 10, 30);
    }

    private static void fallsAsDew() {
        GlassHouse x = new GlassHouse();
        x.weather(2, 40000);
        x.minute(1);
        // VENT 10: GONE (8000 - 40000) * 10 / 80 = -4000, WET 12
        Check.all("above 9000", new long[] {x.air(0, 1), x.air(0, 2), x.air(0, 9), x.told(10)}, 9000, 3012, -4000, 0);
        GlassHouse y = new GlassHouse();
        y.line(0, 19, 500);
        y.line(0, 20, -700);
        y.minute(1);
        // WARMTH 20000 + 50 - 600 is at 19
        Check.all("above the table", new long[] {y.air(0, 0), y.air(0, 1), y.air(0, 2), y.told(10), y.laid(0)},
            19450, 500, 8000 + 12 - 375 - 500, 1, 0);
        GlassHouse z = new GlassHouse();
        z.line(0, 0, -5);
        z.minute(1);
        Check.all("0 at least", new long[] {z.air(1, 1), z.air(1, 2)}, 0, 8000 + 12 - 375);
        GlassHouse w = new GlassHouse();
        w.rest(0, 1);
        w.minute(1);
        Check.due("without lines it is not used", w.told(10), 0);
        w.line(0, 0, 100);
        w.minute(1);
        Check.all("with its offset", new long[] {w.air(0, 1), w.laid(0), w.laid(1)}, 101, 1, 0);
    }

    private static void looksUpByCutWarmth() {
        GlassHouse x = new GlassHouse();
        x.line(0, 19, 100);
        x.line(0, 20, 200);
        x.weather(3, 1);
        x.weather(1, 20000);
        x.minute(1);
        Check.all("just 20000", new long[] {x.air(0, 0), x.air(0, 1)}, 20000, 200);
        GlassHouse y = new GlassHouse();
        y.line(0, -2, 2);
        y.line(0, -1, 5);
        y.line(0, 0, 9);
        y.weather(3, 1);
        y.weather(1, -40000);
        for (int i = 0; i < 200 && y.air(0, 0) > -1100; i++) y.minute(1);
        Check.holds("between -1 and -2: " + y.air(0, 0), y.air(0, 0) > -1999);
        Check.due("cut to -1", y.air(0, 1), 5);
    }

    private static void bindsVapour() {
        GlassHouse x = new GlassHouse();
        x.line(0, 0, 1000000);
        x.mark(0, 0, -50000);
        for (int p = 0; p < 9; p += 3) x.read(p, bits(60));
        x.minute(30);
        x.weather(2, 0);
        Check.due("vent", x.air(0, 3), 100);
        long vapour = x.air(0, 1);
        long bound = x.air(0, 10);
        x.minute(1);
        Check.due("gone", x.air(0, 1), 0);
        Check.due("what lacks", x.air(0, 10) - bound, vapour * 100 / 80 - 12 - vapour);
    }

    private static void steersByStorm() {
        GlassHouse x = new GlassHouse();
        x.minute(5);
        x.weather(3, 1);
        x.weather(4, 1);
        x.minute(1);
        Check.all("by ten to 0, the pipe stays", new long[] {x.air(0, 3), x.air(0, 4)}, 0, 30);
        x.weather(3, 0);
        x.mark(0, 0, 0);
        for (int p = 0; p < 9; p += 3) x.read(p, bits(1e300));
        x.minute(1);
        Check.all("first the pipe", new long[] {x.air(0, 3), x.air(0, 4), x.air(0, 5)}, 0, 20, 4000);
        x.minute(4);
        Check.due("rain: 20 at most", x.air(0, 3), 20);
        x.weather(4, 0);
        x.minute(5);
        Check.due("without", x.air(0, 3), 70);
        x.weather(4, 1);
        x.minute(1);
        Check.due("rain: by ten", x.air(0, 3), 60);
        for (int p = 0; p < 9; p += 3) x.read(p, bits(Double.NEGATIVE_INFINITY));
        x.weather(4, 0);
        x.minute(7);
        Check.all("down", new long[] {x.air(0, 3), x.air(0, 4), x.air(0, 5)}, 0, 10, -4000);
    }

    private static void oneSeason(Random random) {
        GlassHouse x = new GlassHouse();
        Season season = new Season();
        for (int i = 0; i < 40 && season.compared < 5; i++) {
            switch (random.nextInt(6)) {
                case 0: case 1: {
                    int p = random.nextInt(9);
                    long r = reading(random);
                    x.read(p, r);
                    season.reading[p] = Double.longBitsToDouble(r);
                    break;
                }
                case 2: {
                    int what = random.nextInt(5);
                    int v = new int[] {random.nextInt(1001), random.nextInt(100001) - 40000, random.nextInt(40001),
                        random.nextInt(4) / 3, random.nextInt(2)}[what];
                    Check.due("weather", x.weather(what, v), season.weather[what]);
                    season.weather[what] = v;
                    break;
                }
                case 3: {
                    int h = random.nextInt(3);
                    int m = random.nextInt(400);
                    int w = random.nextInt(40000) - 5000;
                    int many = x.mark(h, m, w);
                    if (many > 0) season.marks[h] = append(season.marks[h], m, w);
                    if (many == FULL) season.marks[h] = new int[0][];
                    if (many == FULL) x.unmark(h);
                    break;
                }
                case 4: {
                    double part = random.nextInt(50) / 8.0;
                    x.part(bits(part));
                    season.part = part;
                    break;
                }
                default: {
                    int n = 1 + random.nextInt(random.nextBoolean() ? 3 : 14);
                    x.minute(n);
                    for (int k = 0; k < n; k++) season.pass();
                    season.compare(x);
                    break;
                }
            }
        }
    }

    private static long reading(Random random) {
        switch (random.nextInt(12)) {
            case 0: return NO_NUMBER;
            case 1: return bits(random.nextInt(3) == 0 ? Double.POSITIVE_INFINITY : -0.0);
            case 2: return random.nextLong();
            default: return bits(18 + random.nextInt(40) / 8.0);
        }
    }

    private static int[][] append(int[][] marks, int minute, int wish) {
        int[][] more = Arrays.copyOf(marks, marks.length + 1);
        more[marks.length] = new int[] {minute, wish};
        return more;
    }

    /** Votes and air as the document tells them, with the library's reals. */
    private static final class Season {
        final double[] reading = new double[9];
        final long[] before = new long[9];
        final int[] same = new int[9], off = new int[9], near = new int[9], why = new int[9];
        final double[] value = {Double.NaN, Double.NaN, Double.NaN};
        final int[] weather = {0, 10000, 5000, 0, 0};
        int[][][] marks = new int[3][0][];
        final long[][] air = new long[3][11];
        double part = 2.0;
        int minute;
        int compared;

        Season() {
            Arrays.fill(reading, Double.NaN);
            for (long[] a : air) {
                a[0] = 20000;
                a[1] = 8000;
            }
        }

        void pass() {
            minute++;
            for (int h = 0; h < 3; h++) {
                vote(h);
                steer(h);
                blow(air[h]);
            }
        }

        private void vote(int h) {
            boolean[] turned = new boolean[9];
            double[] in = new double[3];
            int ins = 0;
            int reads = 0;
            for (int p = h; p < 9; p += 3) {
                long now = bits(reading[p]);
                turned[p] = minute > 1 && now != before[p];
                same[p] = minute > 1 && now == before[p] ? same[p] + 1 : 1;
                before[p] = now;
                if (!Double.isNaN(reading[p])) {
                    reads++;
                    if (why[p] == 0) in[ins++] = reading[p];
                }
            }
            Arrays.sort(in, 0, ins);
            value[h] = ins == 0 ? Double.NaN : in[(ins - 1) / 2];
            for (int p = h; p < 9; p += 3) {
                boolean number = !Double.isNaN(reading[p]);
                boolean judged = reads >= 3 && ins > 0 && number;
                double apart = reading[p] == value[h] ? 0 : Math.abs(reading[p] - value[h]);
                off[p] = judged && apart > part ? off[p] + 1 : 0;
                near[p] = judged && !(apart > part) ? near[p] + 1 : 0;
                boolean other = turned[(p + 3) % 9] || turned[(p + 6) % 9];
                int was = why[p];
                if (number && same[p] >= 8 && other) why[p] = 2;
                else if (was == 0 && off[p] >= 3) why[p] = 1;
                else if (was != 0 && near[p] >= 5) why[p] = 0;
                else continue;
                off[p] = 0;
                near[p] = 0;
            }
        }

        private void steer(int h) {
            long[] a = air[h];
            long was = a[3];
            if (weather[3] == 1) {
                a[3] = Math.max(0, was - 10);
                return;
            }
            if (Double.isNaN(value[h]) || marks[h].length == 0) {
                a[3] = was < 10 ? Math.min(10, was + 10) : Math.max(10, was - 10);
                a[4] = a[4] < 30 ? Math.min(30, a[4] + 10) : Math.max(30, a[4] - 10);
            } else {
                long v = Math.max(-1000000000L, Math.min(1000000000L, (long) (value[h] * 1000)));
                long d = Math.max(-100000, Math.min(100000, v - wish(h, minute % 1440)));
                a[5] = Math.max(-4000, Math.min(4000, a[5] + d / 16));
                long move = Math.max(-10, Math.min(10, d / 400 + a[5] / 500));
                for (long i = 0; i < Math.abs(move); i++) {
                    int from = move > 0 ? 4 : 3;
                    int to = move > 0 ? 3 : 4;
                    if (a[from] > 0) a[from]--;
                    else if (a[to] < 100) a[to]++;
                }
            }
            if (weather[4] == 1 && a[3] > 20) a[3] = Math.max(20, was - 10);
        }

        private long wish(int h, int at) {
            int[][] m = marks[h];
            int n = m.length;
            if (n == 1) return m[0][1];
            for (int i = 0; i < n; i++) {
                int x0 = m[i][0];
                int x1 = i + 1 < n ? m[i + 1][0] : m[0][0] + 1440;
                for (int x = at; x <= at + 1440; x += 1440) {
                    if (x >= x0 && x < x1) return m[i][1] + (long) Math.floor((m[(i + 1) % n][1] - m[i][1]) * (double) (x - x0) / (x1 - x0));
                }
            }
            return Long.MIN_VALUE;
        }

        private void blow(long[] a) {
            long in = weather[0] / 8 + 5 * a[4];
            long lost = (a[0] - weather[1]) * (2 + a[3]) / 200;
            a[0] += in - lost;
            long wet = 12 + weather[0] / 50;
            long gone = (a[1] - weather[2]) * a[3] / 80;
            a[1] += wet - gone;
            if (a[1] < 0) {
                a[10] -= a[1];
                a[1] = 0;
            }
            if (a[1] > 9000) {
                a[2] += a[1] - 9000;
                a[1] = 9000;
            }
            a[6] += in;
            a[7] += lost;
            a[8] += wet;
            a[9] += gone;
        }

        void compare(GlassHouse x) {
            compared++;
            for (int p = 0; p < 9; p++) {
                int[] want = {why[p] == 0 ? 1 : 0, why[p], off[p], near[p], same[p]};
                for (int what = 0; what < 5; what++) Check.due("probe " + p + " " + what, x.probe(p, what), want[what]);
            }
            for (int h = 0; h < 3; h++) {
                Check.due("voted " + h, x.voted(h), bits(value[h]));
                for (int what = 0; what < 11; what++) Check.due("air " + h + " " + what, x.air(h, what), air[h][what]);
            }
        }
    }
}
