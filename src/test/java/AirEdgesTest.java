/** The edges that promises 40 to 53 and parts 4 to 6 of the terms name; labels are the document's words. */
public final class AirEdgesTest {
    private static final int BAD = GlassHouse.BAD, NONE = GlassHouse.NONE, NO = GlassHouse.NO, FULL = GlassHouse.FULL;
    private static final int LEAST = Integer.MIN_VALUE, MOST = Integer.MAX_VALUE;
    private static final long NO_NUMBER = 0x7FF8000000000000L;

    public static void main(String[] args) {
        hasEightLines();
        hasLinesUpToAMillion();
        tellsValuesAtEachEdge();
        laysAtFirstUse();
        laysEachWayOfRests();
        hasProbes0To8();
        takesReadingsOfAllBits();
        takesPartsFrom0On();
        judgesWithThree();
        isOffAbovePart();
        goesOutWithThreeOff();
        comesInWithFiveNear();
        sticksWithEight();
        countsTheSameBits();
        hasSixMarks();
        wishesRoundMidnight();
        wishesAtTheDaysMinute();
        hasWeatherBetween();
        movesByTenAtMost();
        keepsVentAndPipeBetween();
        keepsRestBetween();
        steersWithoutAWish();
        obeysRain();
        cutsTowards0();
        isWetAndBound();
        fallsAboveTheTable();
        looksAtWholeThousands();
        goesOneTo100Minutes();
        Check.end();
    }

    private static long bits(double x) {
        return Double.doubleToLongBits(x);
    }

    private static void hasEightLines() {
        for (int table = 0; table < 3; table++) {
            GlassHouse x = new GlassHouse();
            for (int i = 1; i <= 8; i++) Check.due("how many", x.line(table, i, -i), i);
            Check.due("8 at most", x.line(table, 9, 0), FULL);
            Check.due("not above the last one", x.line(table, 8, 0), BAD);
            Check.due("the last LINE", x.value(table, 8), -8);
            Check.due("the others have none", x.value((table + 1) % 3, 8), 0);
        }
        GlassHouse x = new GlassHouse();
        for (int table : new int[] {-1, 3, LEAST, MOST}) Check.due("TABLE", x.line(table, 0, 0), BAD);
    }

    private static void hasLinesUpToAMillion() {
        GlassHouse x = new GlassHouse();
        for (int far : new int[] {-1000001, 1000001, LEAST, MOST}) {
            Check.due("x beyond", x.line(0, far, 0), BAD);
            Check.due("y beyond", x.line(0, 0, far), BAD);
        }
        Check.due("the least", x.line(0, -1000000, 1000000), 1);
        Check.due("one above", x.line(0, -999999, -1000000), 2);
        Check.due("the greatest", x.line(0, 1000000, 1000000), 3);
        Check.due("none is above", x.line(0, 1000000, 0), BAD);
        Check.all("values", new long[] {x.value(0, LEAST), x.value(0, -1000000), x.value(0, -999999), x.value(0, 999999), x.value(0, 1000000),
            x.value(0, 1000001), x.value(0, MOST)}, 1000000, 1000000, -1000000, 999998, 1000000, 1000000, 1000000);
        Check.due("rising", x.line(1, 5, 0) + x.line(1, 5, 0) + x.line(1, 4, 0) + x.line(1, 6, 0), 1 + BAD + BAD + 2);
    }

    private static void tellsValuesAtEachEdge() {
        GlassHouse x = new GlassHouse();
        x.line(0, -2, 10);
        x.line(0, 1, 9);
        x.line(0, 4, 10);
        Check.all("cut downwards", new long[] {x.value(0, -3), x.value(0, -2), x.value(0, -1), x.value(0, 0), x.value(0, 1), x.value(0, 2),
            x.value(0, 3), x.value(0, 4), x.value(0, 5)}, 10, 10, 9, 9, 9, 9, 9, 10, 10);
        x.line(1, 0, 0);
        x.line(1, 3, -1);
        Check.all("below 0 downwards, too", new long[] {x.value(1, 0), x.value(1, 1), x.value(1, 2), x.value(1, 3)}, 0, -1, -1, -1);
        x.line(2, 7, -4);
        Check.all("of one LINE", new long[] {x.value(2, 6), x.value(2, 7), x.value(2, 8)}, -4, -4, -4);
        for (int table : new int[] {-1, 3, LEAST, MOST}) Check.due("BAD: 0", x.value(table, 0), 0);
    }

    private static void laysAtFirstUse() {
        GlassHouse x = new GlassHouse();
        x.line(1, 0, 5);
        x.rest(1, 2);
        Check.due("none yet", x.laid(0) * 10 + x.told(10), -10);
        Check.due("a BAD one lays none", x.value(3, 0) + x.told(10), 0);
        Check.due("a value", x.value(1, 0), 6);
        Check.all("LAID", new long[] {x.laid(0), x.laid(1), x.laid(2), x.laid(-1), x.told(10)}, 2, 1, NONE, NONE, 2);
        Check.due("once", x.value(1, 9) + x.told(10), 8);
        for (int on = -1; on < 3; on++) Check.due("NO: it is LAID", x.rest(1, on) + x.rest(2, on), 2 * NO);
        for (int on : new int[] {-2, 3}) Check.due("BAD", x.rest(1, on) + x.rest(0, on), 2 * BAD);
        Check.due("one that is not LAID", x.rest(0, 1) + x.rest(0, NONE) + x.rest(0, 0) + x.rest(0, 1), 4);
        Check.due("the OFFSET of one that is LAID", x.value(0, 0), 2);
        Check.due("its LINES go on", x.line(0, 0, 100) + x.value(0, 0), 1 + 102);
        for (int k : new int[] {3, 4, LEAST, MOST}) Check.due("NONE", x.laid(k), NONE);
        Check.due("the last one", x.laid(2), 0);
    }

    private static void laysEachWayOfRests() {
        // what TABLES 0, 1, 2 rest on; the TABLE used first; then the OFFSETS of 0, 1, 2, and how they were LAID
        int[][] rows = {
            {-1, -1, -1, 1, 0, 0, 0, 1, 0, 2}, {0, -1, -1, 0, 1, 0, 0, 0, 1, 2}, {1, 2, -1, 0, 2, 1, 0, 2, 1, 0}, {1, 0, -1, 0, 2, 1, 0, 1, 0, 2},
            {1, 2, 0, 0, 3, 2, 1, 2, 1, 0}, {1, 2, 0, 2, 2, 1, 3, 1, 0, 2}, {1, 1, 1, 0, 2, 1, 2, 1, 0, 2}, {2, 2, 2, 1, 2, 2, 1, 2, 1, 0},
            {1, 2, 1, 0, 3, 2, 1, 2, 1, 0}, {1, 2, 2, 0, 3, 2, 1, 2, 1, 0}, {-1, 0, 1, 2, 0, 1, 2, 0, 1, 2}};
        for (int[] r : rows) {
            GlassHouse x = new GlassHouse();
            for (int t = 0; t < 3; t++) x.rest(t, r[t]);
            x.value(r[3], 0);
            for (int t = 0; t < 3; t++) Check.due("OFFSET", x.value(t, 0), r[4 + t]);
            for (int k = 0; k < 3; k++) Check.due("LAID", x.laid(k), r[7 + k]);
        }
    }

    private static void hasProbes0To8() {
        GlassHouse x = new GlassHouse();
        for (int p = -1; p <= 9; p++) {
            boolean is = p >= 0 && p < 9;
            Check.due("read " + p, x.read(p, bits(p)), is ? 1 : BAD);
            Check.due("IN at first", x.probe(p, 0), is ? 1 : BAD);
            for (int what = 1; what < 5; what++) Check.due("0 before", x.probe(p, what), is ? 0 : BAD);
        }
        for (int what : new int[] {-1, 5, LEAST, MOST}) Check.due("what", x.probe(0, what), BAD);
        for (int h = 0; h < 3; h++) Check.due("no number before", x.voted(h), NO_NUMBER);
        x.minute(1);
        for (int h = -1; h <= 3; h++) Check.due("PROBE p in HOUSE p modulo 3", x.voted(h), h < 0 || h > 2 ? 0 : bits(h + 3));
    }

    private static void takesReadingsOfAllBits() {
        long[] some = {0, 1L << 63, 1, 0x7FF0000000000000L, 0xFFF0000000000000L, 0x7FEFFFFFFFFFFFFFL, 0x7FF0000000000001L, -1L, 0xFFF8000000000000L,
            0x8000000000000001L};
        for (long one : some) {
            GlassHouse x = new GlassHouse();
            x.read(4, one);
            x.minute(1);
            Check.due("THE VALUE", x.voted(1), bits(Double.longBitsToDouble(one)));
            x.read(1, one);
            x.read(7, one);
            x.minute(2);
            boolean number = !Double.isNaN(Double.longBitsToDouble(one));
            Check.due("NEAR itself", x.probe(4, 3) * 10 + x.probe(4, 2), number ? 20 : 0);
        }
        GlassHouse x = new GlassHouse();
        x.read(0, 1L << 63);
        x.read(3, 0);
        x.minute(1);
        Check.due("-0.0 below 0.0", x.voted(0), 1L << 63);
        x.read(6, 1L << 63);
        x.minute(1);
        Check.due("of three", x.voted(0), 1L << 63);
        x.read(0, 0);
        x.minute(1);
        Check.due("of three", x.voted(0), 0);
        Check.due("not apart", x.probe(6, 3), 2);
    }

    private static void takesPartsFrom0On() {
        long[] are = {0, 1L << 63, 1, 0x7FF0000000000000L, 0x7FEFFFFFFFFFFFFFL};
        long[] not = {0x8000000000000001L, bits(-1), 0xFFF0000000000000L, NO_NUMBER, 0x7FF0000000000001L, 0xFFF0000000000001L, -1L};
        GlassHouse x = new GlassHouse();
        for (long one : are) Check.due("PART", x.part(one), 1);
        for (long one : not) Check.due("no number, or below 0", x.part(one), BAD);
        for (int i = 0; i < 5; i++) {
            GlassHouse y = new GlassHouse();
            y.part(are[i]);
            y.read(0, bits(5));
            y.read(3, bits(5));
            y.read(6, bits(Double.POSITIVE_INFINITY));
            y.minute(1);
            Check.due("0 apart is not above any", y.probe(0, 3), 1);
            Check.due("without end is above all but itself", y.probe(6, 2), i == 3 ? 0 : 1);
        }
    }

    private static void judgesWithThree() {
        for (int many = 0; many <= 3; many++) {
            GlassHouse x = new GlassHouse();
            for (int k = 0; k < many; k++) x.read(3 * k, bits(10 * k));
            x.minute(1);
            Check.due("MIDDLE, of even many the lesser one", x.voted(0), many == 0 ? NO_NUMBER : bits(many == 3 ? 10 : 0));
            for (int k = 0; k < 3; k++) {
                Check.due("OFF with three or more that READ", x.probe(3 * k, 2), many == 3 && k != 1 ? 1 : 0);
                Check.due("NEAR with three or more that READ", x.probe(3 * k, 3), many == 3 && k == 1 ? 1 : 0);
            }
        }
        GlassHouse x = new GlassHouse();
        for (int k = 0; k < 3; k++) x.read(3 * k, bits(10 * k));
        x.minute(3);
        Check.due("two are OUT", x.probe(0, 0) * 100 + x.probe(3, 0) * 10 + x.probe(6, 0), 10);
        x.minute(1);
        Check.due("IN or OUT", x.probe(0, 2) * 100 + x.probe(3, 3) * 10 + x.probe(6, 2), 100 + 40 + 1);
        x.read(3, NO_NUMBER);
        x.minute(1);
        Check.due("two READ, none is IN", x.voted(0), NO_NUMBER);
        Check.due("both 0", x.probe(0, 2) + x.probe(0, 3) + x.probe(3, 2) + x.probe(3, 3) + x.probe(6, 2) + x.probe(6, 3), 0);
    }

    private static void isOffAbovePart() {
        double[][] rows = {{18, 20, 22, 0, 0}, {17.999, 20, 22.001, 1, 1}, {20, 20, 20, 0, 0}, {-2, 0, 2, 0, 0}, {-2.0000001, 0, 2, 1, 0},
            {-1e308, 1e308, 1.7e308, 1, 1}};
        for (double[] r : rows) {
            GlassHouse x = new GlassHouse();
            for (int k = 0; k < 3; k++) x.read(3 * k + 1, bits(r[k]));
            x.minute(1);
            Check.due("above PART: OFF", x.probe(1, 2), (long) r[3]);
            Check.due("else NEAR", x.probe(1, 3), 1 - (long) r[3]);
            Check.due("the VALUE itself", x.probe(4, 2) * 10 + x.probe(4, 3), 1);
            Check.due("above PART: OFF", x.probe(7, 2), (long) r[4]);
        }
    }

    private static void goesOutWithThreeOff() {
        GlassHouse x = new GlassHouse();
        for (int k = 0; k < 3; k++) x.read(3 * k, bits(k == 2 ? 30 : 20));
        for (int minute = 1; minute <= 5; minute++) {
            x.minute(1);
            Check.due("three minutes OFF in a row", x.probe(6, 0), minute < 3 ? 1 : 0);
            Check.due("WHY 1", x.probe(6, 1), minute < 3 ? 0 : 1);
            Check.due("both counts are 0 behind", x.probe(6, 2), minute < 3 ? minute : minute - 3);
        }
        GlassHouse y = new GlassHouse();
        for (int k = 0; k < 3; k++) y.read(3 * k, bits(20));
        for (int round = 0; round < 3; round++) {
            y.read(6, bits(30));
            y.minute(2);
            Check.due("two are not three", y.probe(6, 0) * 10 + y.probe(6, 2), 12);
            y.read(6, bits(20));
            y.minute(1);
            Check.due("in a row", y.probe(6, 2) * 10 + y.probe(6, 3), 1);
        }
    }

    private static void comesInWithFiveNear() {
        GlassHouse x = new GlassHouse();
        for (int k = 0; k < 3; k++) x.read(3 * k, bits(k == 2 ? 30 : 20));
        x.minute(3);
        x.read(6, bits(21));
        for (int minute = 1; minute <= 6; minute++) {
            x.minute(1);
            Check.due("five NEAR: IN", x.probe(6, 0), minute < 5 ? 0 : 1);
            Check.due("counts", x.probe(6, 3), minute < 5 ? minute : minute - 5);
        }
        GlassHouse y = new GlassHouse();
        for (int k = 0; k < 3; k++) y.read(3 * k, bits(k == 2 ? 30 : 20));
        y.minute(3);
        // Others than before, or these two would be STUCK below.
        y.read(0, bits(20.25));
        y.read(3, bits(20.25));
        y.read(6, bits(21));
        y.minute(4);
        y.read(6, NO_NUMBER);
        y.minute(1);
        y.read(6, bits(21));
        y.minute(4);
        Check.due("in a row", y.probe(6, 0) * 10 + y.probe(6, 3), 4);
        y.minute(1);
        Check.due("now IN", y.probe(6, 0), 1);
    }

    private static void sticksWithEight() {
        for (int alike = 6; alike <= 9; alike++) {
            GlassHouse x = new GlassHouse();
            x.read(2, bits(20));
            x.minute(alike - 1);
            x.read(5, bits(20));
            x.minute(1);
            Check.due("the same BITS in eight minutes in a row, this one too", x.probe(2, 0), alike < 8 ? 1 : 0);
            Check.due("WHY 2", x.probe(2, 1), alike < 8 ? 0 : 2);
            Check.due("minutes with the same BITS go on", x.probe(2, 4), alike);
            Check.due("the other one", x.probe(5, 0) * 10 + x.probe(5, 4), 11);
            Check.due("one that does not READ is not STUCK", x.probe(8, 0) * 10 + x.probe(8, 4), 10 + alike);
        }
        GlassHouse x = new GlassHouse();
        x.read(2, bits(20));
        x.read(5, bits(20));
        x.minute(20);
        Check.due("if none had other BITS, none is STUCK", x.probe(2, 0) + x.probe(5, 0), 2);
        x.read(5, bits(21));
        x.minute(1);
        Check.due("now it is", x.probe(2, 1) * 10 + x.probe(5, 1), 20);
        GlassHouse y = new GlassHouse();
        y.read(2, 0);
        y.minute(8);
        y.read(2, 1L << 63);
        y.read(5, 0);
        y.minute(1);
        Check.due("0.0 and -0.0 are other BITS", y.probe(2, 0) * 10 + y.probe(2, 4), 11);
        GlassHouse z = new GlassHouse();
        z.read(2, bits(20));
        z.minute(7);
        z.read(5, bits(1));
        z.minute(1);
        z.read(5, bits(2));
        z.minute(3);
        Check.due("STUCK once more while OUT", z.probe(2, 1), 2);
        z.read(8, bits(20));
        z.read(5, bits(20));
        z.minute(5);
        Check.due("five NEAR, none turns", z.probe(2, 0), 0);
        z.minute(1);
        Check.due("the first of them was STUCK again", z.probe(2, 0), 1);
    }

    private static void countsTheSameBits() {
        GlassHouse x = new GlassHouse();
        for (int minute = 1; minute <= 3; minute++) {
            x.minute(1);
            Check.due("also of no number", x.probe(0, 4), minute);
        }
        x.read(0, 0x7FF0000000000009L);
        x.minute(1);
        Check.due("no number is one", x.probe(0, 4), 4);
        x.read(0, bits(3));
        Check.due("as of the latest minute", x.probe(0, 4), 4);
        x.minute(1);
        Check.due("from 1 on", x.probe(0, 4), 1);
        x.read(0, bits(4));
        x.read(0, bits(3));
        x.minute(100);
        Check.due("the same READING as before", x.probe(0, 4), 101);
        for (long one : new long[] {0, 1L << 63, 1, -1L >>> 12, 0x7FF0000000000000L, 0xFFF0000000000000L}) {
            GlassHouse y = new GlassHouse();
            y.read(3, one);
            y.minute(8);
            Check.due("of " + one, y.probe(3, 4) * 10 + y.probe(3, 0), 81);
            y.read(6, one);
            y.minute(1);
            Check.due("STUCK at " + one, y.probe(3, 4) * 10 + y.probe(3, 1), 92);
            y.read(3, one ^ 1L << 62);
            y.minute(1);
            Check.due("no more", y.probe(3, 4), 1);
            GlassHouse z = new GlassHouse();
            z.read(0, one);
            z.read(3, bits(7));
            z.minute(8);
            z.read(0, bits(5));
            z.minute(1);
            Check.due("from " + one + " to another", z.probe(3, 1) * 10 + z.probe(0, 4), 21);
        }
    }

    private static void hasSixMarks() {
        for (int h = 0; h < 3; h++) {
            GlassHouse x = new GlassHouse();
            Check.due("minutes 0 .. 1439", x.mark(h, -1, 0) + x.mark(h, 1440, 0), 2 * BAD);
            Check.due("a WISH", x.mark(h, 0, -50001) + x.mark(h, 0, 60001), 2 * BAD);
            Check.due("the least of both", x.mark(h, 0, -50000), 1);
            Check.due("not above the last one", x.mark(h, 0, 0), BAD);
            for (int i = 2; i <= 5; i++) Check.due("rising", x.mark(h, i, 0), i);
            Check.due("the greatest of both", x.mark(h, 1439, 60000), 6);
            Check.due("none is above", x.mark(h, 1439, 0), BAD);
            Check.due("the first and the last", x.wish(h, 0) * 10L + x.wish(h, 1439), -500000L + 60000);
            Check.due("MARKS go", x.unmark(h), 6);
            Check.due("none left", x.unmark(h) + x.wish(h, 0), -100001);
            for (int i = 1; i <= 6; i++) Check.due("anew", x.mark(h, i, 0), i);
            Check.due("6 at most", x.mark(h, 7, 0), FULL);
            Check.due("the other houses", x.wish((h + 1) % 3, 0) + x.wish((h + 2) % 3, 0), -200002);
        }
        GlassHouse x = new GlassHouse();
        for (int h : new int[] {-1, 3, LEAST, MOST}) {
            Check.due("HOUSES", x.mark(h, 0, 0) + x.unmark(h), 2 * BAD);
            Check.due("HOUSES", x.wish(h, 0), -100000);
        }
        for (int at : new int[] {-1, 1440, LEAST, MOST}) Check.due("a minute of the day", x.wish(0, at), -100000);
    }

    private static void wishesRoundMidnight() {
        GlassHouse x = new GlassHouse();
        x.mark(0, 0, 0);
        x.mark(0, 1439, 1439);
        Check.all("MARKS at both ends", new long[] {x.wish(0, 0), x.wish(0, 1), x.wish(0, 1438), x.wish(0, 1439)}, 0, 1, 1438, 1439);
        x.mark(1, 1, 3);
        x.mark(1, 1437, -1);
        // from 1437 on 4 minutes to minute 1 of the next day
        Check.all("the line from the last to the first of the next day", new long[] {x.wish(1, 1437), x.wish(1, 1438), x.wish(1, 1439), x.wish(1, 0),
            x.wish(1, 1)}, -1, 0, 1, 2, 3);
        Check.all("between two, cut downwards", new long[] {x.wish(1, 2), x.wish(1, 719), x.wish(1, 720), x.wish(1, 1436)}, 2, 1, 0, -1);
        x.mark(2, 1439, 10);
        Check.all("one MARK alone", new long[] {x.wish(2, 0), x.wish(2, 1438), x.wish(2, 1439)}, 10, 10, 10);
        x.unmark(2);
        x.mark(2, 5, 0);
        x.mark(2, 6, -1);
        Check.all("cut downwards round midnight", new long[] {x.wish(2, 5), x.wish(2, 6), x.wish(2, 7), x.wish(2, 4), x.wish(2, 1439)},
            0, -1, -1, -1, -1);
    }

    private static void wishesAtTheDaysMinute() {
        GlassHouse x = new GlassHouse();
        x.mark(0, 0, 16000);
        x.mark(0, 1, 0);
        x.mark(0, 2, 0);
        x.mark(0, 1438, 0);
        x.mark(0, 1439, 32000);
        x.read(0, 0);
        x.weather(3, 1);
        for (int i = 0; i < 14; i++) x.minute(100);
        x.minute(37);
        x.weather(3, 0);
        // REST is more by (0 less THE WISH) / 16 in each minute
        long[] rests = new long[5];
        for (int i = 0; i < 5; i++) {
            x.minute(1);
            rests[i] = x.air(0, 5);
        }
        Check.all("MINUTE modulo 1440: 1438, 1439, 0, 1, 2", rests, 0, -2000, -3000, -3000, -3000);
        Check.due("MINUTE goes on", x.told(0), 1442);
    }

    private static void hasWeatherBetween() {
        int[][] rows = {{0, 0, 1000, 0}, {1, -40000, 60000, 10000}, {2, 0, 40000, 5000}, {3, 0, 1, 0}, {4, 0, 1, 0}};
        for (int[] r : rows) {
            GlassHouse x = new GlassHouse();
            Check.due("below", x.weather(r[0], r[1] - 1), -100000);
            Check.due("at first", x.weather(r[0], r[1]), r[3]);
            Check.due("the least", x.weather(r[0], r[2]), r[1]);
            Check.due("above", x.weather(r[0], r[2] + 1), -100000);
            Check.due("the greatest", x.weather(r[0], r[2]), r[2]);
            for (int v : new int[] {LEAST, MOST}) Check.due("far", x.weather(r[0], v), -100000);
        }
        GlassHouse x = new GlassHouse();
        for (int what : new int[] {-1, 5, LEAST, MOST}) Check.due("what", x.weather(what, 0), -100000);
    }

    /** A house whose VALUE is such that MOVE is made of d alone, as far as REST lets it. */
    private static GlassHouse heldAt(double value, int wish) {
        GlassHouse x = new GlassHouse();
        x.mark(0, 0, wish);
        x.read(0, bits(value));
        return x;
    }

    private static void movesByTenAtMost() {
        // d = v less THE WISH; REST = d / 16; MOVE = d / 400 + REST / 500
        double[][] rows = {{0, 0, 0, 0}, {0.399, 0, 0, 24}, {0.4, 0, 1, 25}, {0.7999, 0, 1, 49}, {0.8, 0, 2, 50}, {3.6, 0, 9, 225}, {4, 0, 10, 250},
            {4.4, 0, 10, 275}, {60, 0, 10, 3750}, {64, 0, 10, 4000}, {99, 0, 10, 4000}, {1e9, 0, 10, 4000}};
        for (double[] r : rows) {
            GlassHouse x = heldAt(r[0], 0);
            x.minute(1);
            Check.all("above 0: VENT", new long[] {x.air(0, 3), x.air(0, 4), x.air(0, 5)}, (long) r[2], 0, (long) r[3]);
            GlassHouse y = heldAt(-r[0], 0);
            y.minute(1);
            Check.all("below 0: PIPE", new long[] {y.air(0, 3), y.air(0, 4), y.air(0, 5)}, 0, (long) r[2], -(long) r[3]);
        }
        GlassHouse x = heldAt(8, 0);
        x.minute(1);
        Check.due("REST / 500 is added: 20 and 1, 10 at most", x.air(0, 3) * 1000 + x.air(0, 5), 10500);
        x.read(0, bits(-0.2));
        x.minute(1);
        Check.due("d / 400 is 0, REST 488 / 500 is 0", x.air(0, 3) * 1000 + x.air(0, 5), 10488);
        x.read(0, bits(0.2));
        x.minute(1);
        Check.due("REST 500 / 500 is 1", x.air(0, 3) * 1000 + x.air(0, 5), 11500);
    }

    private static void keepsVentAndPipeBetween() {
        GlassHouse x = heldAt(1e6, 0);
        for (int minute = 1; minute <= 12; minute++) {
            x.minute(1);
            Check.due("VENT, 100 at most", x.air(0, 3), Math.min(100, 10 * minute));
        }
        x.read(0, bits(-1e6));
        for (int minute = 1; minute <= 22; minute++) {
            x.minute(1);
            Check.due("then the VENT, 0 at least", x.air(0, 3), Math.max(0, 100 - 10 * minute));
            Check.due("then the PIPE, 100 at most", x.air(0, 4), Math.max(0, Math.min(100, 10 * (minute - 10))));
        }
        GlassHouse y = heldAt(-1.2, 0);
        y.minute(1);
        Check.due("PIPE 3", y.air(0, 4), 3);
        y.read(0, bits(2));
        y.minute(1);
        Check.all("what is left comes to the VENT", new long[] {y.air(0, 3), y.air(0, 4)}, 2, 0);
        y.read(0, bits(-2));
        y.minute(1);
        Check.all("likewise the VENT, then the PIPE", new long[] {y.air(0, 3), y.air(0, 4)}, 0, 3);
    }

    private static void keepsRestBetween() {
        GlassHouse x = heldAt(1e30, -50000);
        x.minute(1);
        Check.due("d at most 100000, REST at most 4000", x.air(0, 5), 4000);
        x.read(0, bits(-0.01600));
        x.unmark(0);
        x.mark(0, 0, 0);
        x.minute(1);
        Check.due("less by 1", x.air(0, 5), 3999);
        x.read(0, bits(-0.015));
        x.minute(1);
        Check.due("d / 16, cut", x.air(0, 5), 3999);
        x.read(0, bits(Double.NEGATIVE_INFINITY));
        x.minute(1);
        Check.due("d at least -100000: -6250", x.air(0, 5), 3999 - 6250);
        x.minute(1);
        Check.due("REST at least -4000", x.air(0, 5), -4000);
        x.read(0, bits(Double.POSITIVE_INFINITY));
        x.minute(1);
        Check.due("and up again", x.air(0, 5), 2250);
        GlassHouse y = heldAt(-50.001, -50000);
        y.minute(1);
        Check.due("v is cut towards 0", y.air(0, 5), 0);
    }

    private static void steersWithoutAWish() {
        for (int lacks = 0; lacks < 2; lacks++) {
            GlassHouse x = heldAt(1e6, 0);
            x.minute(4);
            if (lacks == 0) x.unmark(0);
            else x.read(0, NO_NUMBER);
            long rest = x.air(0, 5);
            for (int minute = 1; minute <= 5; minute++) {
                x.minute(1);
                Check.due("VENT goes to 10, by 10 at most", x.air(0, 3), Math.max(10, 40 - 10 * minute));
                Check.due("PIPE to 30, by 10 at most", x.air(0, 4), Math.min(30, 10 * minute));
                Check.due("REST stays", x.air(0, 5), rest);
            }
        }
        GlassHouse x = heldAt(-1e6, 0);
        x.minute(5);
        x.unmark(0);
        for (int minute = 1; minute <= 4; minute++) {
            x.minute(1);
            Check.all("from above, from below", new long[] {x.air(0, 3), x.air(0, 4)}, 10, Math.max(30, 50 - 10 * minute));
        }
        x.weather(3, 1);
        x.mark(0, 0, 0);
        for (int minute = 1; minute <= 2; minute++) {
            x.minute(1);
            Check.all("with STORM the VENT goes to 0, the PIPE stays", new long[] {x.air(0, 3), x.air(0, 4)}, 0, 30);
        }
        GlassHouse y = heldAt(2, 0);
        y.minute(3);
        long vent = y.air(0, 3);
        y.weather(3, 1);
        y.minute(1);
        Check.due("by 10 at most", y.air(0, 3), vent - 10);
        y.minute(1);
        Check.due("to 0", y.air(0, 3), Math.max(0, vent - 20));
    }

    private static void obeysRain() {
        GlassHouse x = heldAt(1e6, 0);
        x.weather(4, 1);
        long[] vents = new long[4];
        for (int i = 0; i < 4; i++) {
            x.minute(1);
            vents[i] = x.air(0, 3);
        }
        Check.all("above 20 becomes the greater one of 20 and what it was less 10", vents, 10, 20, 20, 20);
        x.weather(4, 0);
        x.minute(1);
        Check.due("without RAIN", x.air(0, 3), 30);
        x.weather(4, 1);
        x.minute(1);
        Check.due("20 and 30 less 10", x.air(0, 3), 20);
        x.weather(4, 0);
        x.minute(3);
        x.weather(4, 1);
        x.minute(1);
        Check.due("50 less 10", x.air(0, 3), 40);
        x.read(0, bits(-1e6));
        x.minute(1);
        Check.due("would be 30: 40 less 10", x.air(0, 3), 30);
        x.minute(1);
        Check.due("would be 20: it is", x.air(0, 3), 20);
        x.minute(1);
        Check.due("would be 10: it is", x.air(0, 3), 10);
        GlassHouse y = heldAt(1e6, 0);
        y.minute(10);
        y.weather(3, 1);
        y.weather(4, 1);
        y.minute(1);
        Check.due("with STORM it is no RAIN", y.air(0, 3), 90);
        GlassHouse z = heldAt(1e6, 0);
        z.minute(10);
        z.unmark(0);
        z.weather(4, 1);
        z.minute(8);
        Check.due("without a WISH: 20 by RAIN or not", z.air(0, 3), 20);
        z.minute(1);
        Check.due("then 10", z.air(0, 3), 10);
    }

    private static void cutsTowards0() {
        int[][] suns = {{7, 0}, {8, 1}, {49, 6}, {50, 6}, {999, 124}, {1000, 125}};
        for (int[] s : suns) {
            GlassHouse x = new GlassHouse();
            x.weather(3, 1);
            x.weather(0, s[0]);
            x.minute(1);
            Check.due("SUN / 8", x.air(0, 6), s[1]);
            Check.due("12 + SUN / 50", x.air(0, 8), 12 + s[0] / 50);
        }
        // VENT 0: LOST is (WARMTH less OUTSIDE's) * 2 / 200
        int[][] outside = {{19901, 0}, {19900, 1}, {20099, 0}, {20100, -1}, {60000, -400}, {-40000, 600}};
        for (int[] o : outside) {
            GlassHouse x = new GlassHouse();
            x.weather(3, 1);
            x.weather(1, o[0]);
            x.minute(1);
            Check.due("LOST, cut", x.air(0, 7), o[1]);
            Check.due("WARMTH", x.air(0, 0), 20000 - o[1]);
        }
        // VENT 10: GONE is (8000 less OUTSIDE's) * 10 / 80
        int[][] vapours = {{7993, 0}, {7992, 1}, {8007, 0}, {8008, -1}, {0, 1000}, {40000, -4000}};
        for (int[] v : vapours) {
            GlassHouse x = new GlassHouse();
            x.weather(2, v[0]);
            x.minute(1);
            Check.due("GONE, cut", x.air(0, 9), v[1]);
        }
    }

    private static void isWetAndBound() {
        for (int lacks = -1; lacks <= 1; lacks++) {
            GlassHouse x = heldAt(1e6, 0);
            x.line(0, 0, 48 + 4 * lacks);
            x.minute(10);
            // VENT 100, VAPOUR as the TABLE has it: GONE is VAPOUR * 100 / 80, a fourth more than all
            long vapour = x.air(0, 1);
            long bound = x.air(0, 10);
            Check.due("VAPOUR", vapour, 48 + 4 * lacks);
            x.weather(2, 0);
            x.minute(1);
            Check.due("0 at least", x.air(0, 1), Math.max(0, vapour + 12 - vapour * 100 / 80));
            Check.due("what lacks is BOUND", x.air(0, 10) - bound, Math.max(0, vapour * 100 / 80 - 12 - vapour));
        }
    }

    private static void fallsAboveTheTable() {
        GlassHouse x = new GlassHouse();
        x.weather(3, 1);
        x.minute(82);
        Check.due("12 in each minute up to 8984", x.air(0, 1) * 10 + x.air(0, 2), 89840);
        x.minute(1);
        Check.due("8996 is not above 9000", x.air(0, 1) * 10 + x.air(0, 2), 89960);
        x.minute(1);
        Check.due("9008 is", x.air(0, 1) * 10 + x.air(0, 2), 90008);
        Check.due("without using it", x.told(10), 0);
        int[][] lines = {{8012, 8012, 0}, {8011, 8011, 1}, {8013, 8012, 0}, {0, 0, 8012}, {-1, 0, 8012}, {-1000000, 0, 8012}, {1000000, 8012, 0}};
        for (int[] l : lines) {
            GlassHouse y = new GlassHouse();
            y.weather(3, 1);
            y.line(0, 5, l[0]);
            y.minute(1);
            Check.all("above TABLE 0's value (0 at least)", new long[] {y.air(2, 1), y.air(2, 2), y.told(10)}, l[1], l[2], 1);
        }
        GlassHouse z = new GlassHouse();
        z.line(1, 0, 5);
        z.line(2, 0, 5);
        z.minute(1);
        Check.due("TABLES 1 and 2 are not it", z.told(10), 0);
    }

    private static void looksAtWholeThousands() {
        // VENT 0: a hundredth of what OUTSIDE is below is LOST
        int[][] rows = {{20000, 20000, 20}, {19900, 19999, 19}, {20100, 20001, 20}, {-40000, 19400, 19}, {60000, 20400, 20}};
        for (int[] r : rows) {
            GlassHouse x = new GlassHouse();
            for (int at = 18; at <= 22; at++) x.line(0, at, 10 * at);
            x.weather(3, 1);
            x.weather(1, r[0]);
            x.minute(1);
            Check.all("at WARMTH / 1000 (cut), as it is then", new long[] {x.air(1, 0), x.air(1, 1)}, r[1], 10 * r[2]);
        }
        GlassHouse x = new GlassHouse();
        x.line(0, -1, 1);
        x.line(0, 0, 2);
        x.line(0, 1, 3);
        x.weather(3, 1);
        x.weather(1, -40000);
        long[] seen = {0, 0, 0};
        for (int i = 0; i < 80; i++) {
            x.minute(1);
            long warmth = x.air(0, 0);
            if (warmth >= 2000 || warmth <= -2000) continue;
            seen[(int) (warmth / 1000) + 1]++;
            Check.due("round 0, cut towards it: " + warmth, x.air(0, 1), warmth / 1000 + 2);
        }
        Check.holds("-1999 to -1000, -999 to 999, 1000 to 1999", seen[0] > 0 && seen[1] > 0 && seen[2] > 0);
    }

    private static void goesOneTo100Minutes() {
        GlassHouse x = new GlassHouse();
        for (int n : new int[] {0, -1, 101}) Check.due("n", x.minute(n), BAD);
        Check.soFar();
        for (int n : new int[] {LEAST, MOST}) Check.due("n", x.minute(n), BAD);
        Check.due("1", x.minute(1), 1);
        Check.due("100", x.minute(100), 101);
        GlassHouse one = new GlassHouse();
        GlassHouse all = new GlassHouse();
        for (int i = 0; i < 100; i++) one.minute(1);
        all.minute(100);
        for (int h = -1; h <= 3; h++) for (int what = -1; what <= 11; what++) {
            Check.due("n minutes are n times one", one.air(h, what), all.air(h, what));
            if (h < 0 || h > 2 || what < 0 || what > 10) Check.due("0: BAD", all.air(h, what), 0);
        }
        for (int i = 0; i < 500; i++) x.minute(100);
        Check.due("as many as 512 calls can bring", x.told(0), 50101);
    }
}
