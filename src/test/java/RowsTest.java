/** Promises 1 to 20: rows, grids, storeys, bins. */
public final class RowsTest {
    private static final int NULL = -11, INDEX = -12, SIZE = -13, CAST = -14, STORE = -15;
    private static final int BAD = GlassHouse.BAD, NONE = GlassHouse.NONE;
    private static final int[] WRONG_BINS = {-1, 16, Integer.MIN_VALUE, Integer.MAX_VALUE};

    public static void main(String[] args) {
        isNewAsTold();
        makesRows();
        keepsBitsOfLanes();
        makesGrids();
        makesStoreys();
        sharesAndTellsForms();
        tellsWhatIs();
        takesCells();
        takesBeds();
        countsUp();
        setsAndLifts();
        liftsAs();
        shiftsCells();
        shiftsPlaces();
        copies();
        findsAlike();
        tellsSizes();
        Check.end();
    }

    private static void isNewAsTold() {
        GlassHouse x = new GlassHouse();
        for (int bin = 0; bin < 16; bin++) Check.due("new form", x.form(bin), NONE);
        for (int k = 0; k < 6; k++) Check.due("new stock", x.stock(k), 0);
        for (int what = 0; what < 9; what++) Check.due("new ran", x.ran(what), what == 2 ? NONE : 0);
        for (int what = 0; what <= 10; what++) Check.due("new told " + what, x.told(what), 0);
        for (int v = 0; v < 3; v++) Check.due("new valve", x.valve(v, 0) + x.valve(v, 1), 0);
        for (int h = 0; h < 3; h++) {
            Check.all("new air", new long[] {x.air(h, 0), x.air(h, 1), x.air(h, 2), x.air(h, 3), x.air(h, 4), x.air(h, 5),
                x.air(h, 6), x.air(h, 7), x.air(h, 8), x.air(h, 9), x.air(h, 10)}, 20000, 8000, 0, 0, 0, 0, 0, 0, 0, 0, 0);
            Check.due("new wish", x.wish(h, 0), -100001);
            Check.due("new voted", x.voted(h), 0x7FF8000000000000L);
        }
        for (int p = 0; p < 9; p++) Check.due("new probe", x.probe(p, 0), 1);
        Check.all("new weather", new long[] {x.weather(0, 0), x.weather(1, 0), x.weather(2, 0), x.weather(3, 0),
            x.weather(4, 0)}, 0, 10000, 5000, 0, 0);
        Check.all("new others", new long[] {x.came(), x.answer(), x.trace(0), x.fault(), x.laid(0), x.wait1(), x.pest(1, 3),
            x.octet(19, 63), x.page(0, 0), x.formed(0), x.salt(5, 2, 1), x.worked(1, 0)},
            0, 0, NONE, 0, NONE, 0, 0, 0, NONE, NONE, 0, 0);
    }

    private static void makesRows() {
        GlassHouse x = new GlassHouse();
        for (int lane = 0; lane < 8; lane++) {
            Check.due("row of 40", x.row(lane, lane, 40), 1);
            Check.due("its form", x.form(lane), lane);
            Check.due("its size", x.size(lane, 0), 40);
            Check.due("its last cell", x.get(lane, lane, 39), 0);
            Check.due("no fault", x.fault(), 0);
        }
        Check.due("row of none", x.row(8, 4, 0), 1);
        Check.due("size of none", x.size(8, 0), 0);
        for (int bin : WRONG_BINS) Check.due("row bin", x.row(bin, 0, 1), BAD);
        Check.due("row lane -1", x.row(0, -1, 1), BAD);
        Check.due("row lane 8", x.row(0, 8, 1), BAD);
        Check.due("row of 41", x.row(0, 0, 41), BAD);
        Check.due("BAD ahead of SIZE", x.row(0, 8, -1), BAD);
        Check.due("row below none", x.row(0, 5, Integer.MIN_VALUE), SIZE);
        Check.due("the bin stays", x.form(0), 0);
        Check.due("things", x.told(1), 9);
        Check.due("faults", x.told(2), 1);
    }

    private static void keepsBitsOfLanes() {
        long[] samples = {0, 1, -1, 2, 127, 128, 255, 256, -128, -129, 32767, 32768, 65535, 65536, 70000, -70000,
            2147483647L, 2147483648L, -2147483648L, -2147483649L, Long.MAX_VALUE, Long.MIN_VALUE,
            0x7F800000L, 0x7F800001L, 0xFF800000L, 0xFFC00001L, 0x7FC00000L, 0x80000000L, 0x1FFFFFFFFL,
            0x7FF0000000000000L, 0x7FF0000000000001L, 0xFFF0000000000000L, 0xFFF8000000000000L, 0x3FF0000000000000L};
        for (int lane = 0; lane < 8; lane++) {
            GlassHouse x = new GlassHouse();
            x.row(lane, lane, 2);
            for (long bits : samples) {
                Check.due("put", x.put(lane, lane, 1, bits), 1);
                Check.due("lane " + lane + " of " + bits, x.get(lane, lane, 1), machineBits(lane, bits));
                Check.due("the other cell", x.get(lane, lane, 0), 0);
            }
        }
    }

    private static long machineBits(int lane, long bits) {
        switch (lane) {
            case 0: return (bits & 1) != 0 ? 1 : 0;
            case 1: return (byte) bits;
            case 2: return (char) bits;
            case 3: return (short) bits;
            case 4: return (int) bits;
            case 6: return Float.floatToIntBits(Float.intBitsToFloat((int) bits));
            case 7: return Double.doubleToLongBits(Double.longBitsToDouble(bits));
            default: return bits;
        }
    }

    private static void makesGrids() {
        GlassHouse x = new GlassHouse();
        Check.due("grid", x.grid(0, 8, 10, 40, false), 1);
        Check.due("things of it", x.told(1), 11);
        Check.due("bare grid", x.grid(1, 10, 3, 5, true), 1);
        Check.due("things of a bare one", x.told(1), 12);
        Check.due("bays not built", x.size(1, 1), 3);
        Check.due("bays built", x.size(0, 1), 0);
        Check.due("bed of it", x.bed(0, 8, 9, 39), 0);
        Check.due("grid of no bays", x.grid(2, 9, 0, 0, false), 1);
        Check.due("bare with n below 0", x.grid(2, 9, 2, -1, true), 1);
        Check.due("form", x.form(2), 9);
        for (int bin : WRONG_BINS) Check.due("grid bin", x.grid(bin, 9, 1, 1, false), BAD);
        Check.due("grid form 7", x.grid(0, 7, 1, 1, false), BAD);
        Check.due("grid form 11", x.grid(0, 11, 1, 1, false), BAD);
        Check.due("grid of 11", x.grid(0, 9, 11, 1, false), BAD);
        Check.due("bays of 41", x.grid(0, 9, 1, 41, true), BAD);
        Check.due("BAD ahead of SIZE", x.grid(0, 9, -1, 41, false), BAD);
        Check.due("a below 0", x.grid(0, 9, -1, 1, true), SIZE);
        Check.due("n below 0", x.grid(0, 9, 0, -1, false), SIZE);
        Check.due("what has a fault made none", x.told(1), 14);
        Check.due("the bin stays", x.form(0), 8);
    }

    private static void makesStoreys() {
        GlassHouse x = new GlassHouse();
        Check.due("storeys", x.storeys(3, 4), 1);
        Check.due("form", x.form(3), 11);
        Check.due("places", x.size(3, 0), 4);
        Check.due("empty", x.size(3, 1), 4);
        Check.due("none", x.storeys(4, 0), 1);
        Check.due("5", x.storeys(3, 5), BAD);
        Check.due("below none", x.storeys(3, -1), SIZE);
        for (int bin : WRONG_BINS) Check.due("storeys bin", x.storeys(bin, -1), BAD);
        Check.due("things", x.told(1), 2);
    }

    private static void sharesAndTellsForms() {
        GlassHouse x = new GlassHouse();
        x.row(0, 4, 2);
        Check.due("share", x.share(1, 0), 1);
        x.put(1, 4, 0, 8);
        Check.due("one thing in two bins", x.get(0, 4, 0), 8);
        Check.due("share itself", x.share(1, 1), 1);
        Check.due("share NONE", x.share(0, NONE), 1);
        Check.due("gone", x.form(0), NONE);
        Check.due("share of nothing", x.share(1, 5), 1);
        Check.due("gone too", x.form(1), NONE);
        Check.due("share from 16", x.share(1, 16), BAD);
        Check.due("share from -2", x.share(1, -2), BAD);
        for (int bin : WRONG_BINS) {
            Check.due("share bin", x.share(bin, 0), BAD);
            Check.due("form bin", x.form(bin), BAD);
        }
        Check.due("no fault", x.told(2), 0);
    }

    private static void tellsWhatIs() {
        GlassHouse x = new GlassHouse();
        for (int kind = 0; kind < 6; kind++) x.plant(kind, kind, 1, 1, 15, 15);
        int[][] trays = {{1, 0, 1, 0}, {1, 1, 0, 1}, {1, 1, 0, 1}, {1, 0, 1, 1}, {0, 0, 0, 0}, {0, 0, 0, 1}};
        for (int kind = 0; kind < 6; kind++) {
            for (int form = 0; form < 18; form++) {
                int want = form == 16 ? 1 : form >= 12 && form < 16 ? trays[kind][form - 12] : 0;
                Check.due("kind " + kind + " is " + form, x.is(kind, form), want);
            }
        }
        x.tray(6, 13, 1);
        x.row(7, 0, 1);
        x.card(8);
        x.storeys(9, 1);
        int[] forms = {13, 0, 17, 11};
        for (int i = 0; i < 4; i++) {
            for (int form = 0; form < 18; form++) Check.due("is", x.is(6 + i, form), form == forms[i] ? 1 : 0);
        }
        for (int form = 0; form < 18; form++) Check.due("nothing is", x.is(15, form), 0);
        Check.due("is 18", x.is(0, 18), BAD);
        Check.due("is -1", x.is(0, -1), BAD);
        for (int bin : WRONG_BINS) Check.due("is bin", x.is(bin, 0), BAD);
    }

    private static void takesCells() {
        GlassHouse x = new GlassHouse();
        x.row(0, 5, 3);
        Check.due("put", x.put(0, 5, 2, Long.MIN_VALUE), 1);
        Check.due("get", x.get(0, 5, 2), Long.MIN_VALUE);
        Check.due("put CAST", x.put(0, 4, 2, 1), CAST);
        Check.due("put NULL", x.put(1, 4, 2, 1), NULL);
        Check.due("put INDEX 3", x.put(0, 5, 3, 1), INDEX);
        Check.due("put INDEX -1", x.put(0, 5, -1, 1), INDEX);
        Check.due("CAST ahead of INDEX", x.put(0, 4, 99, 1), CAST);
        long before = x.told(2);
        Check.due("get CAST", x.get(0, 6, 0), 0);
        Check.due("fault", x.fault(), 4);
        Check.due("get NULL", x.get(9, 6, 0), 0);
        Check.due("fault", x.fault(), 1);
        Check.due("get INDEX", x.get(0, 5, -1), 0);
        Check.due("fault", x.fault(), 2);
        for (int bin : WRONG_BINS) {
            Check.due("get bin", x.get(bin, 5, 0), 0);
            Check.due("put bin", x.put(bin, 5, 0, 1), BAD);
        }
        Check.due("get lane", x.get(0, 8, 2), 0);
        Check.due("put lane", x.put(0, -1, 2, 1), BAD);
        Check.due("faults", x.told(2), before + 3);
        Check.due("unchanged", x.get(0, 5, 2), Long.MIN_VALUE);
    }

    private static void takesBeds() {
        GlassHouse x = new GlassHouse();
        x.grid(0, 8, 2, 3, false);
        x.grid(1, 10, 2, 3, false);
        x.grid(2, 9, 2, 3, true);
        Check.due("short", x.setBed(0, 8, 1, 2, 40000), 1);
        Check.due("short", x.bed(0, 8, 1, 2), 40000 - 65536);
        Check.due("double", x.setBed(1, 10, 0, 0, 0x7FF123L << 40), 1);
        Check.due("double", x.bed(1, 10, 0, 0), 0x7FF8000000000000L);
        Check.due("CAST", x.setBed(0, 9, 0, 0, 1), CAST);
        Check.due("NULL", x.setBed(5, 9, 0, 0, 1), NULL);
        Check.due("INDEX", x.setBed(2, 9, 2, 0, 1), INDEX);
        Check.due("not built", x.setBed(2, 9, 1, -1, 1), NULL);
        Check.due("INDEX", x.setBed(0, 8, 1, 3, 1), INDEX);
        Check.due("BAD", x.setBed(0, 7, 1, 1, 1), BAD);
        Check.due("BAD", x.setBed(0, 11, 1, 1, 1), BAD);
        for (int bin : WRONG_BINS) Check.due("BAD", x.setBed(bin, 8, 1, 1, 1), BAD);
        long before = x.told(2);
        Check.due("bed BAD", x.bed(16, 8, 0, 0) + x.bed(0, 12, 0, 0), 0);
        Check.due("no fault of BAD", x.told(2), before);
        int[][] rows = {{0, 9, 0, 0, 4}, {5, 9, 0, 0, 1}, {2, 9, -1, 0, 2}, {2, 9, 0, 9, 1}, {0, 8, 0, -1, 2}};
        for (int[] r : rows) {
            Check.due("bed fault", x.bed(r[0], r[1], r[2], r[3]), 0);
            Check.due("told", x.fault(), r[4]);
        }
    }

    private static void countsUp() {
        GlassHouse x = new GlassHouse();
        x.storeys(0, 3);
        x.grid(1, 9, 2, 2, false);
        x.grid(2, 9, 2, 2, true);
        x.set(0, 0, 1);
        x.set(0, 1, 2);
        x.setBed(1, 9, 1, 1, Integer.MAX_VALUE);
        Check.due("what it was", x.countUp(0, 0, 1, 1, false), Integer.MAX_VALUE);
        Check.due("wrapped", x.bed(1, 9, 1, 1), Integer.MIN_VALUE);
        Check.due("is then", x.countUp(0, 0, 1, 1, true), Integer.MIN_VALUE + 1);
        int[][] rows = {{1, 0, 0, 0, 4}, {9, 0, 0, 0, 1}, {0, 3, 0, 0, 2}, {0, -1, 0, 0, 2}, {0, 2, 9, 9, 1}, {0, 0, 2, 9, 2},
            {0, 1, 1, 9, 1}, {0, 0, 1, 2, 2}, {0, 0, 1, -1, 2}};
        for (int[] r : rows) {
            Check.due("countUp", x.countUp(r[0], r[1], r[2], r[3], true), 0);
            Check.due("its fault", x.fault(), r[4]);
        }
        Check.due("faults", x.told(2), rows.length);
        Check.due("bad", x.countUp(16, 0, 0, 0, true), 0);
        Check.due("is no fault", x.told(2), rows.length);
    }

    private static void setsAndLifts() {
        GlassHouse x = new GlassHouse();
        for (int lane = 0; lane < 8; lane++) x.row(lane, lane, 2);
        for (int form = 8; form < 11; form++) {
            x.grid(15, form, 2, 2, true);
            for (int lane = 0; lane < 8; lane++) {
                boolean fits = lane == (form == 8 ? 3 : form == 9 ? 4 : 7);
                Check.due("set of lane " + lane + " in " + form, x.set(15, 1, lane), fits ? 1 : STORE);
            }
            Check.due("nothing is for all", x.set(15, 1, 14), 1);
            Check.due("so none is built", x.size(15, 1), 2);
            Check.due("a grid is no row", x.set(15, 0, 15), STORE);
        }
        x.storeys(14, 2);
        for (int form = 8; form < 11; form++) {
            x.grid(13, form, 1, 1, false);
            Check.due("in storeys", x.set(14, 0, 13), form == 9 ? 1 : STORE);
        }
        Check.due("storeys are not for storeys", x.set(14, 0, 14), STORE);
        Check.due("a card is for none", x.card(12), 0);
        Check.due("set card", x.set(14, 0, 12), STORE);
        Check.due("set in a card", x.set(12, 0, 12), CAST);
        Check.due("set in a row", x.set(0, 0, 1), CAST);
        Check.due("CAST ahead of INDEX", x.set(0, 9, 1), CAST);
        Check.due("set in nothing", x.set(11, 0, 1), NULL);
        Check.due("INDEX ahead of STORE", x.set(14, 2, 12), INDEX);
        Check.due("set from 16", x.set(14, 0, 16), BAD);
        Check.due("set from NONE", x.set(14, 0, NONE), BAD);
        Check.due("set bin", x.set(-1, 0, 0), BAD);
        Check.due("lift", x.lift(10, 14, 0), 1);
        Check.due("a grid of ints", x.form(10), 9);
        Check.due("lift nothing", x.lift(10, 14, 1), 1);
        Check.due("nothing", x.form(10), NONE);
        Check.due("lift CAST", x.lift(10, 0, 0), CAST);
        Check.due("lift CAST of a card", x.lift(10, 12, 0), CAST);
        Check.due("lift NULL", x.lift(10, 11, 0), NULL);
        Check.due("lift INDEX", x.lift(10, 14, -1), INDEX);
        Check.due("lift BAD", x.lift(16, 14, 0), BAD);
        Check.due("lift BAD", x.lift(0, 16, 0), BAD);
        Check.due("lift into the same bin", x.lift(14, 14, 0), 1);
        Check.due("so", x.form(14), 9);
        int made = x.told(1);
        Check.due("lifting makes none", x.lift(10, 14, 0) + x.told(1), 1 + made);
    }

    private static void liftsAs() {
        GlassHouse x = new GlassHouse();
        x.tray(0, 12, 2);
        x.plant(1, 1, 1, 1, 0, 0);
        x.set(0, 0, 1);
        x.row(2, 0, 1);
        for (int form = 0; form < 18; form++) {
            Check.due("a plant as " + form, x.liftAs(2, 0, 0, form), form == 16 ? 1 : CAST);
            Check.due("the bin stays", x.form(2), form < 16 ? 0 : 16);
        }
        for (int form = 0; form < 18; form++) Check.due("nothing as " + form, x.liftAs(2, 0, 1, form), 1);
        Check.due("nothing", x.form(2), NONE);
        x.grid(3, 8, 1, 1, false);
        Check.due("a row of shorts", x.liftAs(4, 3, 0, 3), 1);
        Check.due("not of ints", x.liftAs(4, 3, 0, 4), CAST);
        Check.due("form 18", x.liftAs(4, 3, 0, 18), BAD);
        Check.due("form -1", x.liftAs(4, 3, 0, -1), BAD);
        Check.due("bins", x.liftAs(16, 3, 0, 0), BAD);
        Check.due("bins", x.liftAs(0, -1, 0, 0), BAD);
        Check.due("NULL", x.liftAs(4, 9, 0, 3), NULL);
        Check.due("CAST", x.liftAs(4, 4, 0, 3), CAST);
        Check.due("INDEX", x.liftAs(4, 3, 1, 3), INDEX);
    }

    private static void shiftsCells() {
        GlassHouse x = new GlassHouse();
        x.row(0, 4, 5);
        x.row(1, 4, 3);
        x.row(2, 3, 3);
        for (int i = 0; i < 5; i++) x.put(0, 4, i, i + 1);
        Check.due("within one, upwards", x.shift(0, 0, 0, 1, 4), 4);
        Check.all("moved", cells(x, 0, 4), 1, 1, 2, 3, 4);
        Check.due("within one, downwards", x.shift(0, 2, 0, 0, 3), 3);
        Check.all("moved", cells(x, 0, 4), 2, 3, 4, 3, 4);
        Check.due("to another", x.shift(0, 0, 1, 1, 2), 2);
        Check.all("moved", cells(x, 1, 4), 0, 2, 3);
        Check.due("came", x.came(), 2);
        Check.due("none at the end", x.shift(0, 5, 1, 3, 0), 0);
        Check.due("BAD", x.shift(16, 0, 0, 0, 0), BAD);
        Check.due("BAD", x.shift(0, 0, -1, 0, 0), BAD);
        x.shift(0, 0, 1, 0, 1);
        Check.due("BAD leaves came", x.shift(0, 0, 16, 0, 1) + x.came(), BAD + 1);
        Check.due("NULL", x.shift(0, 0, 9, 0, 1), NULL);
        Check.due("came 0", x.came(), 0);
        Check.due("NULL", x.shift(9, 0, 0, 0, 1), NULL);
        Check.due("other lane", x.shift(0, 0, 2, 0, 0), STORE);
        Check.due("STORE ahead of INDEX", x.shift(0, -1, 2, 0, 0), STORE);
        int[][] beyond = {{-1, 0, 1}, {0, -1, 1}, {0, 0, -1}, {5, 0, 1}, {0, 3, 1}, {0, 0, 4}, {3, 0, 3},
            {Integer.MAX_VALUE, 0, 1}, {0, Integer.MAX_VALUE, Integer.MAX_VALUE}};
        for (int[] b : beyond) Check.due("INDEX", x.shift(0, b[0], 1, b[1], b[2]), INDEX);
        x.card(3);
        x.plant(4, 0, 0, 0, 0, 0);
        Check.due("a card", x.shift(3, 0, 3, 0, 0), STORE);
        Check.due("a plant", x.shift(4, 0, 4, 0, 0), STORE);
        x.tray(5, 12, 2);
        Check.due("a row and a tray", x.shift(0, 0, 5, 0, 0), STORE);
        Check.due("a tray and a row", x.shift(5, 0, 0, 0, 0), STORE);
        Check.due("a card and a tray", x.shift(3, 0, 5, 0, 0), STORE);
    }

    private static void shiftsPlaces() {
        GlassHouse x = new GlassHouse();
        x.tray(0, 12, 4);
        for (int kind = 0; kind < 4; kind++) {
            x.plant(4 + kind, kind, 0, 1, 15, 15);
            x.set(0, kind, 4 + kind);
        }
        x.tray(1, 13, 4);
        Check.due("a herb is first", x.shift(0, 0, 1, 0, 4), STORE);
        Check.due("none came", x.came(), 0);
        Check.due("two tomatoes, then a cress", x.shift(0, 1, 1, 1, 3), STORE);
        Check.due("two came", x.came(), 2);
        Check.due("fault", x.fault(), 5);
        x.lift(2, 1, 2);
        Check.due("the graft", x.alike(2, 6), 2);
        Check.due("and no more", x.size(1, 1), 2);
        Check.due("two faults", x.told(2), 2);
        Check.due("upwards within one", x.shift(0, 0, 0, 1, 3), 3);
        for (int i = 0; i < 4; i++) {
            x.lift(2, 0, i);
            Check.due("place " + i, x.alike(2, i == 0 ? 4 : 3 + i), 2);
        }
        Check.due("downwards within one", x.shift(0, 1, 0, 0, 3), 3);
        for (int i = 0; i < 4; i++) {
            x.lift(2, 0, i);
            Check.due("place " + i, x.alike(2, i == 3 ? 6 : 4 + i), 2);
        }
        x.grid(8, 8, 2, 1, true);
        x.grid(9, 9, 2, 1, false);
        Check.due("nothing goes from any to any", x.shift(8, 0, 9, 0, 2), 2);
        Check.due("so all is gone", x.size(9, 1), 2);
        x.grid(8, 8, 2, 1, false);
        Check.due("shorts into ints", x.shift(8, 0, 9, 0, 2), STORE);
        Check.due("no bays, no fault", x.shift(8, 0, 9, 0, 0), 0);
        Check.due("INDEX ahead of the places' STORE", x.shift(8, 0, 9, 1, 2), INDEX);
    }

    private static void copies() {
        GlassHouse x = new GlassHouse();
        x.storeys(0, 3);
        x.grid(1, 9, 2, 2, false);
        x.row(2, 4, 2);
        x.set(1, 0, 2);
        x.set(1, 1, 2);
        x.set(0, 0, 1);
        x.set(0, 2, 1);
        int made = x.told(1);
        Check.due("shallow", x.copy(3, 0, false), 1);
        Check.due("one made", x.told(1), made + 1);
        x.lift(4, 3, 2);
        Check.due("the same grid", x.alike(4, 1), 2);
        Check.due("deep", x.copy(5, 0, true), 1);
        Check.due("storeys, two grids, four rows", x.told(1), made + 8);
        x.lift(6, 5, 0);
        x.lift(7, 5, 2);
        Check.due("each place one of its own", x.alike(6, 7), 1);
        x.setBed(6, 9, 0, 0, 5);
        Check.due("each bay one of its own", x.bed(6, 9, 1, 0), 0);
        Check.due("not that of the other grid", x.bed(7, 9, 0, 0), 0);
        Check.due("not the first one", x.get(2, 4, 0), 0);
        x.setBed(1, 9, 0, 0, 6);
        Check.due("the first one shares its bays", x.bed(1, 9, 1, 0), 6);
        Check.due("shallow grid", x.copy(8, 1, false), 1);
        x.setBed(8, 9, 0, 1, 7);
        Check.due("the same rows", x.get(2, 4, 1), 7);
        Check.due("row", x.copy(9, 2, false), 1);
        x.put(9, 4, 0, 1);
        Check.due("its own cells", x.get(2, 4, 0), 6);
        x.plant(10, 2, 1, 2, 15, 15);
        made = x.told(1);
        Check.due("a plant itself", x.copy(11, 10, true), 1);
        Check.due("the same", x.alike(11, 10), 2);
        Check.due("nothing", x.copy(11, 15, true), 1);
        Check.due("nothing", x.form(11), NONE);
        Check.due("none made", x.told(1), made);
        x.tray(12, 12, 2);
        x.set(12, 1, 10);
        x.copy(13, 12, true);
        x.lift(14, 13, 1);
        Check.due("plants of a tray themselves", x.alike(14, 10), 2);
        x.card(0);
        x.setField(0, 5, 44);
        x.lead(0, 0, 0);
        x.lead(0, 1, 10);
        Check.due("card", x.copy(1, 0, true), 1);
        Check.due("its field", x.field(1, 5), 44);
        x.follow(2, 1, 0);
        Check.due("it leads to the first one", x.alike(2, 0), 2);
        Check.due("the next card's number", x.card(3), 2);
        Check.due("BAD", x.copy(16, 0, true), BAD);
        Check.due("BAD", x.copy(0, -1, true), BAD);
    }

    private static void findsAlike() {
        GlassHouse x = new GlassHouse();
        Check.due("nothing and nothing", x.alike(0, 1), 2);
        x.row(0, 4, 2);
        Check.due("nothing and a row", x.alike(0, 1), 0);
        Check.due("a row and nothing", x.alike(1, 0), 0);
        x.row(1, 4, 2);
        Check.due("alike", x.alike(0, 1), 1);
        x.row(1, 4, 3);
        Check.due("longer", x.alike(0, 1), 0);
        x.row(1, 3, 2);
        Check.due("of another lane", x.alike(0, 1), 0);
        x.row(0, 7, 1);
        x.row(1, 7, 1);
        x.put(0, 7, 0, Long.MIN_VALUE);
        Check.due("-0.0 and 0.0", x.alike(0, 1), 0);
        x.put(0, 7, 0, 0x7FF8000000000000L);
        x.put(1, 7, 0, 0xFFF0000000000001L);
        Check.due("no number and no number", x.alike(0, 1), 1);
        x.grid(0, 9, 2, 1, true);
        x.grid(1, 9, 2, 1, false);
        Check.due("not built", x.alike(0, 1), 0);
        x.copy(2, 1, true);
        Check.due("alike grids", x.alike(1, 2), 1);
        x.tray(3, 12, 1);
        x.tray(4, 13, 1);
        Check.due("trays of two forms", x.alike(3, 4), 0);
        x.tray(4, 12, 1);
        Check.due("trays", x.alike(3, 4), 1);
        x.plant(5, 1, 1, 1, 0, 0);
        x.plant(6, 1, 1, 1, 0, 0);
        Check.due("two plants", x.alike(5, 6), 0);
        x.set(3, 0, 5);
        x.set(4, 0, 6);
        Check.due("trays with two plants", x.alike(3, 4), 0);
        x.set(4, 0, 5);
        Check.due("trays with one plant", x.alike(3, 4), 1);
        x.card(7);
        x.card(8);
        Check.due("two cards", x.alike(7, 8), 1);
        x.setField(7, 0, 1);
        Check.due("another field", x.alike(7, 8), 0);
        x.setField(8, 0, 3);
        Check.due("the same field", x.alike(7, 8), 1);
        x.lead(7, 0, 7);
        x.lead(8, 0, 8);
        Check.due("each to itself", x.alike(7, 8), 0);
        x.lead(8, 0, 7);
        Check.due("both to one", x.alike(7, 8), 1);
        x.lead(8, 1, 5);
        Check.due("another leaf", x.alike(7, 8), 0);
        Check.due("BAD", x.alike(16, 0), BAD);
        Check.due("BAD", x.alike(0, -1), BAD);
        Check.due("no faults", x.told(2), 0);
    }

    private static void tellsSizes() {
        GlassHouse x = new GlassHouse();
        x.row(0, 0, 7);
        x.tray(1, 15, 8);
        x.plant(2, 5, 0, 0, 0, 0);
        x.card(3);
        x.set(1, 3, 2);
        Check.all("sizes", new long[] {x.size(0, 0), x.size(0, 1), x.size(1, 0), x.size(1, 1)}, 7, 0, 8, 7);
        Check.all("faults", new long[] {x.size(2, 0), x.size(3, 1), x.size(4, 0)}, CAST, CAST, NULL);
        Check.all("bad", new long[] {x.size(16, 0), x.size(0, 2), x.size(0, -1), x.size(2, 5)}, BAD, BAD, BAD, BAD);
    }

    private static long[] cells(GlassHouse x, int bin, int lane) {
        long[] told = new long[x.size(bin, 0)];
        for (int i = 0; i < told.length; i++) told[i] = x.get(bin, lane, i);
        return told;
    }
}
