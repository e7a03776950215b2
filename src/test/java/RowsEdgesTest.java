/** The edges that promises 2 to 20 and part 1 of the terms name, one after another; labels are the document's words. */
public final class RowsEdgesTest {
    private static final int NULL = -11, INDEX = -12, SIZE = -13, CAST = -14, STORE = -15;
    private static final int BAD = GlassHouse.BAD, NONE = GlassHouse.NONE;
    private static final int[] FAR = {-1, Integer.MIN_VALUE, Integer.MAX_VALUE};

    public static void main(String[] args) {
        hasBins0To15();
        hasRowsOf0To40();
        hasCellsFrom0On();
        startsAt0();
        takesBitsByTheLowest();
        hasGridsOf0To10Bays();
        hasBaysOf0To40();
        hasStoreysOf0To4();
        takesNothingForEachForm();
        takesPlacesAllTogether();
        countsUpAndWraps();
        findsFaultsInOrder();
        standsInSeveral();
        shiftsNoneOneAndAll();
        shiftsAsIfAllWereTakenAhead();
        shiftsUpToTheFirstThatIsNotFor();
        shiftsOneByOneWhereverTheyGo();
        copiesEmptyAndFull();
        findsTheLastDifference();
        countsPlacesThatAreNothing();
        Check.end();
    }

    private static void hasBins0To15() {
        GlassHouse x = new GlassHouse();
        for (int bin = 0; bin < 16; bin++) {
            Check.due("hold NOTHING at first", x.form(bin), NONE);
            Check.due("row", x.row(bin, bin % 8, bin), 1);
        }
        for (int bin = 0; bin < 16; bin++) {
            Check.due("its own", x.form(bin) * 100 + x.size(bin, 0), bin % 8 * 100 + bin);
            Check.due("the same only itself", x.alike(bin, 15 - bin), 0);
        }
        Check.due("from the last to the first", x.share(0, 15), 1);
        Check.due("the same one", x.alike(0, 15), 2);
        Check.due("NONE: NOTHING", x.share(15, NONE), 1);
        Check.due("only that bin", x.form(0) * 10 + x.form(15), 70 - 1);
    }

    private static void hasRowsOf0To40() {
        for (int lane = 0; lane < 8; lane++) {
            GlassHouse x = new GlassHouse();
            for (int n : new int[] {0, 1, 39, 40}) {
                Check.due("0 to 40 CELLS", x.row(0, lane, n), 1);
                Check.due("as many", x.size(0, 0), n);
                Check.due("of a ROW 0", x.size(0, 1), 0);
            }
            Check.due("n above 40", x.row(0, lane, 41), BAD);
            Check.due("fewer than none", x.row(0, lane, -1), SIZE);
            Check.due("four were made", x.told(1), 4);
        }
    }

    private static void hasCellsFrom0On() {
        for (int lane = 0; lane < 8; lane++) {
            GlassHouse x = new GlassHouse();
            for (int n : new int[] {0, 1, 40}) {
                x.row(0, lane, n);
                Check.due("behind the last one", x.put(0, lane, n, 1), INDEX);
                Check.due("behind the last one", x.get(0, lane, n) * 10 + x.fault(), 2);
                for (int far : FAR) Check.due("far", x.put(0, lane, far, 1), INDEX);
                for (int i = 0; i < n; i++) Check.due("put", x.put(0, lane, i, i % 2), 1);
                for (int i = 0; i < n; i++) Check.due("get", x.get(0, lane, i), i % 2);
            }
            Check.due("the last faults", x.told(2), 15);
        }
    }

    private static void startsAt0() {
        for (int lane = 0; lane < 8; lane++) {
            GlassHouse x = new GlassHouse();
            x.row(0, lane, 40);
            for (int i = 0; i < 40; i++) {
                Check.due("false, 0 at first", x.get(0, lane, i), 0);
                x.put(0, lane, i, -1);
            }
            x.row(0, lane, 40);
            for (int i = 0; i < 40; i++) Check.due("a new ROW", x.get(0, lane, i), 0);
        }
    }

    private static void takesBitsByTheLowest() {
        long[][] truths = {{0, 0}, {1, 1}, {2, 0}, {3, 1}, {-1, 1}, {-2, 0}, {1L << 63, 0}};
        long[][] bytes = {{127, 127}, {128, -128}, {255, -1}, {256, 0}, {-128, -128}, {-129, 127}};
        long[][] letters = {{65535, 65535}, {65536, 0}, {-1, 65535}, {-65536, 0}, {32768, 32768}};
        long[][] shorts = {{32767, 32767}, {32768, -32768}, {-32768, -32768}, {-32769, 32767}, {65535, -1}, {65536, 0}};
        long[][] ints = {{2147483647L, 2147483647L}, {2147483648L, -2147483648L}, {-2147483648L, -2147483648L},
            {-2147483649L, 2147483647L}, {4294967295L, -1}, {4294967296L, 0}};
        long[][] longs = {{Long.MAX_VALUE, Long.MAX_VALUE}, {Long.MIN_VALUE, Long.MIN_VALUE}, {-1, -1}};
        long[][] floats = {{0x7F800000L, 0x7F800000L}, {0x7F800001L, 0x7FC00000L}, {0x7FFFFFFFL, 0x7FC00000L},
            {0xFF800000L, -8388608}, {0xFF800001L, 0x7FC00000L}, {0xFFFFFFFFL, 0x7FC00000L}, {-1, 0x7FC00000L},
            {0x80000000L, -2147483648L}, {0x100000001L, 1}, {0x7F7FFFFFL, 0x7F7FFFFFL}, {0x80000001L, -2147483647L}};
        long[][] doubles = {{0x7FF0000000000000L, 0x7FF0000000000000L}, {0x7FF0000000000001L, 0x7FF8000000000000L},
            {0x7FFFFFFFFFFFFFFFL, 0x7FF8000000000000L}, {0xFFF0000000000000L, 0xFFF0000000000000L},
            {0xFFF0000000000001L, 0x7FF8000000000000L}, {-1, 0x7FF8000000000000L}, {Long.MIN_VALUE, Long.MIN_VALUE}, {1, 1}};
        long[][][] all = {truths, bytes, letters, shorts, ints, longs, floats, doubles};
        GlassHouse x = new GlassHouse();
        x.card(8);
        for (int lane = 0; lane < 8; lane++) {
            x.row(lane, lane, 1);
            for (long[] one : all[lane]) {
                x.put(lane, lane, 0, one[0]);
                Check.due("BITS of lane " + lane, x.get(lane, lane, 0), one[1]);
                x.setField(8, lane, one[0]);
                Check.due("FIELD of lane " + lane, x.field(8, lane), one[1]);
            }
        }
        for (int form = 8; form <= 10; form++) {
            x.grid(9, form, 1, 1, false);
            for (long[] one : all[form == 8 ? 3 : form == 9 ? 4 : 7]) {
                x.setBed(9, form, 0, 0, one[0]);
                Check.due("BITS of form " + form, x.bed(9, form, 0, 0), one[1]);
            }
        }
    }

    private static void hasGridsOf0To10Bays() {
        for (int form = 8; form <= 10; form++) {
            GlassHouse x = new GlassHouse();
            for (int a : new int[] {0, 1, 10}) {
                int made = x.told(1);
                Check.due("0 to 10 BAYS", x.grid(0, form, a, 2, false), 1);
                Check.due("ROWS of GRIDS, too", x.told(1), made + 1 + a);
                Check.due("as many, all built", x.size(0, 0) * 100 + x.size(0, 1), 100 * a);
                Check.due("bare", x.grid(1, form, a, 2, true), 1);
                Check.due("only itself", x.told(1), made + 2 + a);
                Check.due("none built", x.size(1, 0) * 100 + x.size(1, 1), 101 * a);
                Check.due("behind the last BAY", x.setBed(0, form, a, 0, 1), INDEX);
                Check.due("behind the last BAY", x.setBed(1, form, a, 0, 1), INDEX);
                if (a == 0) continue;
                Check.due("the last BAY", x.setBed(0, form, a - 1, 1, 1), 1);
                Check.due("not built", x.setBed(1, form, a - 1, 1, 1), NULL);
            }
            Check.due("a above 10", x.grid(0, form, 11, 1, true), BAD);
            Check.due("a below 0", x.grid(0, form, -1, 1, true), SIZE);
            Check.due("a below 0", x.grid(0, form, -1, 1, false), SIZE);
        }
    }

    private static void hasBaysOf0To40() {
        for (int form = 8; form <= 10; form++) {
            GlassHouse x = new GlassHouse();
            for (int n : new int[] {0, 1, 40}) {
                Check.due("n CELLS", x.grid(0, form, 2, n, false), 1);
                Check.due("behind the last CELL", x.setBed(0, form, 1, n, 1), INDEX);
                for (int far : FAR) Check.due("far", x.setBed(0, form, 1, far, 1), INDEX);
                if (n > 0) Check.due("the last CELL", x.setBed(0, form, 1, n - 1, 1) + x.bed(0, form, 1, n - 1), 2);
                if (n > 0) Check.due("each a new ROW", x.bed(0, form, 0, n - 1), 0);
            }
            Check.due("n above 40", x.grid(0, form, 0, 41, false), BAD);
            Check.due("n above 40", x.grid(0, form, 0, 41, true), BAD);
            Check.due("n (not bare) is below 0", x.grid(0, form, 0, -1, false), SIZE);
            Check.due("bare it is not looked at", x.grid(0, form, 3, -1, true), 1);
            Check.due("bare it is not looked at", x.grid(0, form, 0, Integer.MIN_VALUE, true), 1);
        }
    }

    private static void hasStoreysOf0To4() {
        GlassHouse x = new GlassHouse();
        x.grid(1, 9, 1, 1, false);
        for (int n : new int[] {0, 1, 4}) {
            Check.due("0 to 4 places", x.storeys(0, n), 1);
            Check.due("NOTHING in each", x.size(0, 0) * 10 + x.size(0, 1), 11 * n);
            Check.due("behind the last", x.set(0, n, 1), INDEX);
            if (n > 0) Check.due("the last", x.set(0, n - 1, 1), 1);
            if (n > 0) Check.due("it counts", x.countUp(0, n - 1, 0, 0, true), n == 1 ? 1 : 2);
        }
        Check.due("n above 4", x.storeys(0, 5), BAD);
        Check.due("below 0", x.storeys(0, -1), SIZE);
        Check.due("five were made", x.told(1), 5);
    }

    private static void takesNothingForEachForm() {
        GlassHouse x = new GlassHouse();
        x.tray(0, 15, 1);
        for (int form = 0; form < 18; form++) {
            x.row(1, 0, 1);
            Check.due("NOTHING goes for each", x.liftAs(1, 0, 0, form), 1);
            Check.due("NOTHING", x.form(1), NONE);
            Check.due("NOTHING is of no FORM", x.is(1, form), 0);
        }
        for (int lane = 0; lane < 8; lane++) Check.due("then NULL", x.put(1, lane, 0, 0), NULL);
        for (int form = 8; form < 11; form++) Check.due("then NULL", x.setBed(1, form, 0, 0, 0), NULL);
        Check.due("then NULL", x.countUp(1, 0, 0, 0, true) * 10 + x.fault(), 1);
        Check.due("NOTHING is for all", x.set(0, 0, 1), 1);
    }

    private static void takesPlacesAllTogether() {
        GlassHouse x = new GlassHouse();
        for (int form = 0; form < 18; form++) {
            if (form < 8) x.row(0, form, 1);
            else if (form < 11) x.grid(0, form, 1, 1, true);
            else if (form == 11) x.storeys(0, 1);
            else if (form < 16) x.tray(0, form, 1);
            else if (form == 16) x.plant(0, 2, 1, 1, 15, 15);
            else x.card(0);
            boolean places = form >= 8 && form < 16;
            Check.due("FORM", x.form(0), form);
            Check.due("set: FORMS 8 to 15", x.set(0, 0, 15), places ? 1 : CAST);
            Check.due("lift: FORMS 8 to 15", x.lift(1, 0, 0), places ? 1 : CAST);
            Check.due("liftAs: FORMS 8 to 15", x.liftAs(1, 0, 0, 3), places ? 1 : CAST);
            Check.due("size: ROWS and PLACES", x.size(0, 0), form < 16 ? 1 : CAST);
            Check.due("shift: ROWS and PLACES", x.shift(0, 0, 0, 0, 1), form < 16 ? 1 : STORE);
            Check.due("CAST ahead of INDEX", x.set(0, 1, 15), places ? INDEX : CAST);
        }
    }

    private static void countsUpAndWraps() {
        GlassHouse x = new GlassHouse();
        x.storeys(0, 4);
        x.grid(1, 9, 10, 40, false);
        x.set(0, 3, 1);
        x.setBed(1, 9, 9, 39, Integer.MAX_VALUE - 1);
        Check.due("is then", x.countUp(0, 3, 9, 39, true), Integer.MAX_VALUE);
        Check.due("wraps", x.countUp(0, 3, 9, 39, true), Integer.MIN_VALUE);
        x.setBed(1, 9, 0, 0, Integer.MAX_VALUE);
        Check.due("what it was", x.countUp(0, 3, 0, 0, false), Integer.MAX_VALUE);
        Check.due("wrapped", x.bed(1, 9, 0, 0), Integer.MIN_VALUE);
        x.setBed(1, 9, 5, 20, -1);
        Check.due("to 0", x.countUp(0, 3, 5, 20, true) * 10L + x.fault(), 0);
        Check.due("no other cell", x.bed(1, 9, 5, 19) + x.bed(1, 9, 5, 21) + x.bed(1, 9, 4, 20), 0);
    }

    private static void findsFaultsInOrder() {
        GlassHouse x = new GlassHouse();
        x.storeys(0, 2);
        x.grid(1, 9, 2, 2, true);
        x.row(2, 4, 2);
        x.set(1, 0, 2);
        x.set(0, 0, 1);
        // each row has all that comes later wrong, too: storeys, s, i, j and the fault
        int[][] counts = {{2, 9, 9, 9, 4}, {15, 9, 9, 9, 1}, {0, 2, 9, 9, 2}, {0, 1, 9, 9, 1}, {0, 0, 2, 9, 2}, {0, 0, 1, 9, 1}, {0, 0, 0, 2, 2}};
        for (int[] r : counts) Check.due("CAST, NULL, INDEX, NULL, INDEX, NULL, INDEX", countFault(x, r), r[4]);
        int[][] beds = {{2, 9, 9, 9, 4}, {15, 9, 9, 9, 1}, {1, 9, 2, 9, 2}, {1, 9, 1, 9, 1}, {1, 9, 0, 2, 2}};
        for (int[] r : beds) {
            Check.due("CAST, NULL, INDEX, NULL, INDEX", x.setBed(r[0], r[1], r[2], r[3], 1), -10 - r[4]);
            Check.due("bed", x.bed(r[0], r[1], r[2], r[3]) * 10 + x.fault(), r[4]);
        }
        Check.due("INDEX ahead of STORE", x.set(1, 2, 1), INDEX);
        Check.due("STORE last", x.set(1, 1, 1), STORE);
        Check.due("INDEX ahead of the second CAST", x.liftAs(3, 1, 2, 3), INDEX);
        Check.due("CAST of what is there", x.liftAs(3, 1, 0, 3), CAST);
    }

    private static int countFault(GlassHouse x, int[] r) {
        return x.countUp(r[0], r[1], r[2], r[3], true) * 100 + x.fault();
    }

    private static void standsInSeveral() {
        GlassHouse x = new GlassHouse();
        x.row(0, 4, 1);
        x.grid(1, 9, 10, 1, true);
        for (int i = 0; i < 10; i++) x.set(1, i, 0);
        x.storeys(2, 4);
        for (int s = 0; s < 4; s++) x.set(2, s, 1);
        for (int s = 0; s < 4; s++) for (int i = 0; i < 10; i++) {
            Check.due("one ROW in all", x.countUp(2, s, i, 0, true), 10 * s + i + 1);
        }
        Check.due("and in its BIN", x.get(0, 4, 0), 40);
        Check.due("three were made", x.told(1), 3);
    }

    private static void shiftsNoneOneAndAll() {
        for (int lane = 0; lane < 8; lane++) {
            GlassHouse x = new GlassHouse();
            x.row(0, lane, 40);
            x.row(1, lane, 40);
            x.row(2, lane, 0);
            for (int i = 0; i < 40; i++) x.put(0, lane, i, i % 3 == 0 ? 1 : 0);
            Check.due("none", x.shift(0, 0, 1, 0, 0), 0);
            Check.due("none came", x.came(), 0);
            Check.due("none behind the last", x.shift(0, 40, 1, 40, 0), 0);
            Check.due("none of none", x.shift(2, 0, 2, 0, 0), 0);
            Check.due("one, the last", x.shift(0, 39, 1, 0, 1), 1);
            Check.due("it", x.get(1, lane, 0) * 10 + x.get(1, lane, 39), 10);
            Check.due("all", x.shift(0, 0, 1, 0, 40), 40);
            Check.due("all came", x.came(), 40);
            Check.due("alike", x.alike(0, 1), 1);
            int[][] beyond = {{0, 0, 41}, {1, 0, 40}, {0, 1, 40}, {40, 0, 1}, {0, 40, 1}, {41, 0, 0}, {0, 41, 0}, {-1, 0, 0}, {0, -1, 0}, {0, 0, -1},
                {Integer.MAX_VALUE, 0, 1}, {0, Integer.MAX_VALUE, 1}, {1, 1, Integer.MAX_VALUE}, {Integer.MIN_VALUE, 0, 1}, {0, 0, Integer.MIN_VALUE}};
            for (int[] b : beyond) {
                Check.due("below 0 or beyond", x.shift(0, b[0], 1, b[1], b[2]), INDEX);
                Check.due("none came", x.came(), 0);
            }
            Check.due("nothing changed", x.alike(0, 1), 1);
        }
    }

    private static void shiftsAsIfAllWereTakenAhead() {
        for (int by = -7; by <= 7; by++) {
            GlassHouse x = new GlassHouse();
            x.row(0, 4, 8);
            x.tray(1, 12, 8);
            for (int i = 0; i < 8; i++) {
                x.put(0, 4, i, i);
                x.plant(2 + i, 0, i, 0, 0, 0);
                x.set(1, i, 2 + i);
            }
            int from = Math.max(0, -by);
            int many = 8 - Math.abs(by);
            Check.due("CELLS", x.shift(0, from, 0, from + by, many), many);
            Check.due("places", x.shift(1, from, 1, from + by, many), many);
            for (int i = 0; i < 8; i++) {
                boolean moved = i >= from + by && i < from + by + many;
                Check.due("CELL " + i, x.get(0, 4, i), moved ? i - by : i);
                x.lift(15, 1, i);
                Check.due("place " + i, x.alike(15, 2 + (moved ? i - by : i)), 2);
            }
        }
    }

    private static void shiftsUpToTheFirstThatIsNotFor() {
        for (int stop = 0; stop <= 8; stop++) {
            GlassHouse x = new GlassHouse();
            x.tray(0, 12, 8);
            x.tray(1, 13, 8);
            x.plant(2, 1, 1, 1, 0, 0);
            x.plant(3, 0, 1, 1, 0, 0);
            for (int i = 0; i < 8; i++) if (i != 1) x.set(0, i, i == stop ? 3 : 2);
            if (stop == 1) x.set(0, 1, 3);
            int due = stop == 8 ? 8 : STORE;
            Check.due("what the other is not for is a STORE", x.shift(0, 0, 1, 0, 8), due);
            Check.due("those ahead of it have come", x.came(), stop);
            Check.due("NOTHING is for all", x.size(1, 1), 8 - stop + (stop > 1 ? 1 : 0));
            Check.due("one FAULT", x.told(2), stop == 8 ? 0 : 1);
            Check.due("a BAD one leaves came()", x.shift(0, 0, 16, 0, 1) * 10 + x.came(), 10 * BAD + stop);
            Check.due("behind a FAULT 0", x.shift(0, 0, 15, 0, 1) * 10 + x.came(), 10 * NULL);
        }
    }

    private static void shiftsOneByOneWhereverTheyGo() {
        for (int i = 0; i < 4; i++) for (int j = 0; j < 4; j++) for (int stop = 0; stop < 4; stop++) {
            GlassHouse x = new GlassHouse();
            x.tray(0, 12, 7);
            x.tray(1, 14, 7);
            x.plant(2, 3, 1, 1, 0, 0);
            x.plant(3, 1, 1, 1, 0, 0);
            for (int k = 0; k < 7; k++) x.set(0, k, k == i + stop ? 3 : 2);
            Check.due("a STORE", x.shift(0, i, 1, j, 4), STORE);
            Check.due("those ahead of it have come", x.came(), stop);
            for (int k = 0; k < 7; k++) {
                x.lift(4, 1, k);
                Check.due("place " + k, x.alike(4, 2), k >= j && k < j + stop ? 2 : 0);
            }
            Check.due("what they came from stays", x.size(0, 1), 0);
        }
    }

    private static void copiesEmptyAndFull() {
        GlassHouse x = new GlassHouse();
        x.storeys(0, 4);
        Check.due("deep, NOTHING in each", x.copy(1, 0, true), 1);
        Check.due("one more", x.told(1), 2);
        Check.due("NOTHING in each", x.size(1, 1), 4);
        x.grid(2, 9, 10, 40, true);
        for (int s = 0; s < 4; s++) x.set(0, s, 2);
        Check.due("deep, not built", x.copy(1, 0, true), 1);
        Check.due("five more", x.told(1), 3 + 5);
        x.row(3, 4, 40);
        x.put(3, 4, 39, 7);
        for (int i = 0; i < 10; i++) x.set(2, i, 3);
        Check.due("deep, full", x.copy(1, 0, true), 1);
        Check.due("45 more", x.told(1), 9 + 45);
        Check.due("each place one of its own", x.countUp(1, 3, 9, 39, false), 7);
        Check.due("so the next has not counted", x.countUp(1, 3, 8, 39, false), 7);
        Check.due("nor that in another GRID", x.countUp(1, 2, 9, 39, false), 7);
        Check.due("nor the first one", x.get(3, 4, 39), 7);
        Check.due("shallow", x.copy(1, 0, false), 1);
        Check.due("one more", x.told(1), 55);
        Check.due("the same in them", x.countUp(1, 0, 0, 39, true) * 10 + x.get(3, 4, 39), 88);
        Check.due("a row of none", x.row(4, 6, 0) + x.copy(5, 4, true) + x.alike(4, 5), 3);
        Check.due("into itself", x.copy(3, 3, false), 1);
        Check.due("another one now", x.put(3, 4, 39, 1) + x.countUp(0, 0, 0, 39, false), 1 + 8);
        int made = x.told(1);
        Check.due("a BIN that holds NOTHING", x.copy(3, 15, true), 1);
        Check.due("makes none", x.told(1) * 10 + x.form(3), made * 10 - 1);
    }

    private static void findsTheLastDifference() {
        GlassHouse x = new GlassHouse();
        for (int lane = 0; lane < 8; lane++) {
            x.row(0, lane, 40);
            x.row(1, lane, 40);
            Check.due("alike", x.alike(0, 1), 1);
            x.put(1, lane, 39, 1);
            Check.due("the last CELL", x.alike(0, 1), 0);
            x.put(0, lane, 39, 1);
            Check.due("the same BITS", x.alike(0, 1), 1);
            x.row(1, lane, 39);
            Check.due("as long", x.alike(0, 1), 0);
            x.row(0, lane, 0);
            x.row(1, (lane + 1) % 8, 0);
            Check.due("of one FORM, also of none", x.alike(0, 1), 0);
        }
        x.grid(0, 9, 10, 40, false);
        x.copy(1, 0, true);
        x.setBed(1, 9, 9, 39, 1);
        Check.due("the last BAY's last CELL", x.alike(0, 1), 0);
        x.setBed(0, 9, 9, 39, 1);
        Check.due("alike again", x.alike(0, 1), 1);
        x.set(0, 9, 15);
        Check.due("NOTHING and a ROW", x.alike(0, 1), 0);
        x.set(1, 9, 15);
        Check.due("both NOTHING", x.alike(0, 1), 1);
        x.storeys(2, 4);
        x.storeys(3, 4);
        x.set(2, 3, 0);
        Check.due("a GRID and NOTHING", x.alike(2, 3), 0);
        x.set(3, 3, 1);
        Check.due("places alike", x.alike(2, 3), 1);
        x.setBed(1, 9, 0, 0, 5);
        Check.due("three deep", x.alike(2, 3), 0);
        x.copy(3, 2, false);
        Check.due("with the same in them", x.alike(2, 3), 1);
    }

    private static void countsPlacesThatAreNothing() {
        GlassHouse x = new GlassHouse();
        x.plant(1, 1, 1, 1, 0, 0);
        for (int n : new int[] {0, 1, 8}) {
            x.tray(0, 12, n);
            for (int i = 0; i <= n; i++) {
                Check.due("places", x.size(0, 0), n);
                Check.due("of the places are NOTHING", x.size(0, 1), n - i);
                Check.due("one more", x.set(0, i, 1), i < n ? 1 : INDEX);
            }
        }
        Check.due("what = -1", x.size(0, -1), BAD);
        Check.due("what = 2", x.size(0, 2), BAD);
    }
}
