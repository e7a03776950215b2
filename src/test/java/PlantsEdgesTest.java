/** The edges that promises 21 to 31 and part 2 of the terms name; labels are the document's words. */
public final class PlantsEdgesTest {
    private static final int NULL = -11, INDEX = -12, SIZE = -13, CAST = -14, STORE = -15, ZERO = -16;
    private static final int BAD = GlassHouse.BAD, NONE = GlassHouse.NONE, FULL = GlassHouse.FULL;
    private static final int HERB = 0, TOMATO = 1, GRAFT = 2, CRESS = 3, PROBE = 4, VALVE = 5;
    private static final int LEAST = Integer.MIN_VALUE, MOST = Integer.MAX_VALUE;

    public static void main(String[] args) {
        hasKinds0To5();
        looksAtPartsOfGraftsAlone();
        numbersPlantsAsTheyCome();
        hasDepthsUpTo4();
        hasTraysOf0To8();
        takesInTraysWhatTheyAreFor();
        asks0To7();
        tellsOfEachPlantItsOwn();
        wrapsSizes();
        wrapsThirstAndMark();
        cutsCosts();
        asksNoParts();
        leavesTheLongestTrace();
        emptiesTheTrace();
        keepsTheAnswer();
        tellsFirst();
        numbersCardsAsTheyCome();
        hasFieldsOfEachLane();
        leadsToNothingItselfAndOthers();
        goesAlongOneCardAndMany();
        Check.end();
    }

    private static void hasKinds0To5() {
        GlassHouse x = new GlassHouse();
        for (int kind = -1; kind <= 6; kind++) {
            boolean is = kind >= 0 && kind < 6;
            Check.due("KIND " + kind, x.plant(0, kind, 0, 0, 1, 1), is ? kind : BAD);
            if (!is) continue;
            x.ask(0, 6);
            Check.due("its KIND", x.answer(), kind);
        }
        Check.due("far", x.plant(0, LEAST, 0, 0, 0, 0) + x.plant(0, MOST, 0, 0, 0, 0), 2 * BAD);
    }

    private static void looksAtPartsOfGraftsAlone() {
        for (int far : new int[] {-1, 16, LEAST, MOST}) {
            GlassHouse x = new GlassHouse();
            int made = 0;
            for (int kind = 0; kind < 6; kind++) {
                Check.due("p " + far, x.plant(0, kind, 0, 0, far, 15), kind == GRAFT ? BAD : made++);
                Check.due("q " + far, x.plant(0, kind, 0, 0, 15, far), kind == GRAFT ? BAD : made++);
            }
            x.row(1, 4, 1);
            Check.due("what they hold is not looked at", x.plant(2, VALVE, 0, 0, 1, 1), made);
            Check.due("of a GRAFT it is", x.plant(2, GRAFT, 0, 0, 1, 1), CAST);
        }
        GlassHouse x = new GlassHouse();
        x.plant(0, HERB, 0, 0, 0, 0);
        Check.due("BINS 0 and 15", x.plant(15, GRAFT, 0, 0, 0, 15), 1);
        Check.due("what the BIN itself holds", x.plant(15, GRAFT, 0, 0, 15, 15), 2);
        x.ask(15, 7);
        Check.due("DEPTH", x.answer(), 2);
        for (int form = 0; form < 18; form++) {
            if (form < 8) x.row(1, form, 1);
            else if (form < 11) x.grid(1, form, 1, 1, true);
            else if (form == 11) x.storeys(1, 1);
            else if (form < 16) x.tray(1, form, 1);
            else if (form == 16) x.plant(1, PROBE, 0, 0, 0, 0);
            else x.card(1);
            Check.holds("p: TAKEN FOR PLANTS", x.plant(2, GRAFT, 0, 0, 1, 14) == CAST == (form != 16));
            Check.holds("q: TAKEN FOR PLANTS", x.plant(2, GRAFT, 0, 0, 14, 1) == CAST == (form != 16));
        }
    }

    private static void numbersPlantsAsTheyCome() {
        GlassHouse x = new GlassHouse();
        for (int i = 0; i < 100; i++) {
            Check.due("0, 1, .. as they come", x.plant(i % 15, i % 6, i, i, 15, 15), i);
            Check.due("a refused one takes none", x.plant(i % 15, 6, i, i, 15, 15), BAD);
        }
        for (int i = 0; i < 15; i++) Check.due("its NUMBER", told(x, i, 5), i + (i < 10 ? 90 : 75));
    }

    private static void hasDepthsUpTo4() {
        GlassHouse x = new GlassHouse();
        x.plant(0, TOMATO, 1, 1, 0, 0);
        for (int depth = 0; depth <= 4; depth++) {
            x.ask(depth, 7);
            Check.due("its DEPTH", x.answer(), depth);
            for (int other = 0; other <= depth; other++) {
                int due = depth == 4 ? FULL : x.told(1);
                Check.due("1 and the greater one, the first", x.plant(15, GRAFT, 1, 1, depth, other), due);
                due = depth == 4 ? FULL : x.told(1);
                Check.due("1 and the greater one, the second", x.plant(14, GRAFT, 1, 1, other, depth), due);
                if (depth == 4) continue;
                x.ask(15, 7);
                Check.due("DEPTH", x.answer(), depth + 1);
                x.ask(14, 7);
                Check.due("DEPTH", x.answer(), depth + 1);
            }
            if (depth < 4) x.plant(depth + 1, GRAFT, 1, 1, depth, 13);
        }
        x.plant(12, GRAFT, 1, 1, 13, 13);
        x.ask(12, 7);
        Check.due("of NOTHING and NOTHING", x.answer(), 1);
    }

    private static void hasTraysOf0To8() {
        for (int form = 12; form <= 15; form++) {
            GlassHouse x = new GlassHouse();
            x.plant(1, form == 14 ? HERB : TOMATO, 1, 1, 0, 0);
            for (int n : new int[] {0, 1, 8}) {
                Check.due("n places", x.tray(0, form, n), 1);
                Check.due("NOTHING in each", x.size(0, 0) * 10 + x.size(0, 1), 11 * n);
                Check.due("behind the last", x.set(0, n, 1), INDEX);
                if (n > 0) Check.due("the last", x.set(0, n - 1, 1), 1);
            }
            Check.due("n above 8", x.tray(0, form, 9), BAD);
            Check.due("n above 8", x.tray(0, form, MOST), BAD);
            Check.due("fewer than none", x.tray(0, form, -1), SIZE);
            Check.due("fewer than none", x.tray(0, form, LEAST), SIZE);
        }
        GlassHouse x = new GlassHouse();
        for (int form : new int[] {-1, 8, 11, 16, 17, 18}) Check.due("FORM 12 to 15", x.tray(0, form, -1), BAD);
    }

    private static void takesInTraysWhatTheyAreFor() {
        // PLANTS, TOMATOES, HERBS, all that THIRST
        String[] takes = {"1111..", ".11...", "1..1..", ".111.1"};
        for (int form = 12; form <= 15; form++) {
            for (int kind = 0; kind < 6; kind++) {
                GlassHouse x = new GlassHouse();
                x.plant(1, kind, 1, 1, 15, 15);
                x.tray(0, form, 1);
                boolean is = takes[form - 12].charAt(kind) == '1';
                Check.due("set", x.set(0, 0, 1), is ? 1 : STORE);
                Check.due("is", x.is(1, form), is ? 1 : 0);
                Check.due("a TRAY is its own FORM alone", x.is(0, form) * 10 + x.is(0, 16), 10);
                x.tray(2, form, 1);
                Check.due("shift", x.shift(0, 0, 2, 0, 1) * 10 + x.size(2, 1), is ? 10 : 11);
            }
        }
    }

    private static void asks0To7() {
        GlassHouse x = new GlassHouse();
        x.plant(0, CRESS, 8, 2, 0, 0);
        for (int what = -1; what <= 8; what++) Check.due("ask " + what, x.ask(0, what), what < 0 || what > 7 ? BAD : 1);
        Check.due("far", x.ask(0, LEAST) + x.ask(0, MOST), 2 * BAD);
        String[] thirsts = {"HERB", "PROBE"};
        int[] kinds = {HERB, PROBE};
        for (int i = 0; i < 2; i++) {
            x.plant(1, kinds[i], 1, 1, 0, 0);
            Check.due(thirsts[i] + " does not THIRST", x.ask(1, 1), CAST);
            Check.due("but COSTS", x.ask(1, 2), 1);
        }
        x.plant(1, VALVE, 1, 1, 0, 0);
        Check.due("a VALVE does not COST", x.ask(1, 2), CAST);
        Check.due("but THIRSTS", x.ask(1, 1), 1);
        for (int kind : new int[] {TOMATO, GRAFT, CRESS}) {
            x.plant(1, kind, 1, 1, 0, 0);
            Check.due("both", x.ask(1, 1) + x.ask(1, 2), 2);
        }
    }

    private static void tellsOfEachPlantItsOwn() {
        GlassHouse x = new GlassHouse();
        for (int kind = 5; kind >= 0; kind--) x.plant(10 - kind, kind, 100 + kind, 50 + kind, 9, 15);
        for (int kind = 0; kind < 6; kind++) {
            int bin = 10 - kind;
            Check.all("FIRST, NUMBER, KIND, DEPTH", new long[] {told(x, bin, 4), told(x, bin, 5), told(x, bin, 6), told(x, bin, 7)},
                kind == GRAFT ? 9 : 7, 5 - kind, kind, kind == GRAFT ? 1 : 0);
        }
        Check.due("MARK of the GRAFT", told(x, 8, 3), 9 + 52);
        Check.due("SIZE of the TOMATO", told(x, 9, 0), 2 * 101 + 51);
    }

    private static int told(GlassHouse x, int bin, int what) {
        Check.due("ask", x.ask(bin, what), 1);
        return x.answer();
    }

    private static void wrapsSizes() {
        int[] some = {0, 1, -1, 1073741823, 1073741824, -1073741824, -1073741825, MOST, LEAST};
        for (int a : some) {
            GlassHouse x = new GlassHouse();
            for (int b : some) {
                x.plant(0, HERB, a, b, 0, 0);
                x.plant(1, TOMATO, a, b, 0, 0);
                x.plant(2, GRAFT, a, b, 1, 0);
                x.plant(3, CRESS, a, b, 0, 0);
                Check.due("a", told(x, 0, 0), a);
                Check.due("twice what 1 gives, and b", told(x, 1, 0), 2 * a + b);
                Check.due("both PARTS, and then what 2 gives", told(x, 2, 0), 5 * a + 2 * b);
                if (b == 0) Check.due("by b", x.ask(3, 0), ZERO);
                else Check.due("by b", told(x, 3, 0), (int) ((long) a / b));
            }
        }
    }

    private static void wrapsThirstAndMark() {
        int[] some = {0, 1, MOST, LEAST, MOST - 3, MOST - 2, MOST - 9, MOST - 8};
        for (int b : some) {
            GlassHouse x = new GlassHouse();
            x.plant(0, CRESS, b, 1, 0, 0);
            x.plant(1, TOMATO, 0, b, 0, 0);
            x.plant(2, VALVE, 7, b, 0, 0);
            x.plant(3, GRAFT, 0, b, 0, 0);
            Check.due("3 and the thing's own SIZE", told(x, 0, 1), 3 + b);
            Check.due("twice what 10 gives", told(x, 1, 1), 2 * (3 + b));
            Check.due("of VALVES: b", told(x, 2, 1), b);
            Check.due("9 and b", told(x, 3, 3), 9 + b);
            Check.due("MARK of others", told(x, 1, 3), 7);
        }
    }

    private static void cutsCosts() {
        int[] some = {1, -1, 3, -3, 4999, 5000, 5001, -4999, -5000, -5001, MOST, LEAST};
        for (int a : some) {
            GlassHouse x = new GlassHouse();
            for (int kind : new int[] {HERB, TOMATO, GRAFT, PROBE}) {
                x.plant(0, kind, a, 0, 15, 15);
                Check.due("5000 by a", told(x, 0, 2), 5000 / a);
            }
            x.plant(0, CRESS, a, -1, 0, 0);
            Check.due("what 20 gives, and its own THIRST", told(x, 0, 2), 5000 / a + 3 - a);
        }
        GlassHouse x = new GlassHouse();
        for (int kind : new int[] {HERB, TOMATO, GRAFT, CRESS, PROBE}) {
            x.plant(0, kind, 0, 1, 15, 15);
            Check.due("by 0", x.ask(0, 2), ZERO);
        }
    }

    private static void asksNoParts() {
        GlassHouse x = new GlassHouse();
        x.plant(0, HERB, 1, 1, 0, 0);
        int[][] parts = {{15, 15}, {0, 15}, {15, 0}, {0, 0}};
        int[][] traces = {{3}, {3, 1}, {3}, {3, 1, 1, 2, 1}};
        for (int i = 0; i < 4; i++) {
            x.plant(1, GRAFT, 1, 1, parts[i][0], parts[i][1]);
            Check.due("SIZE of both PARTS", x.ask(1, 0), i == 3 ? 1 : NULL);
            for (int k = 0; k <= traces[i].length; k++) Check.due("trace", x.trace(k), k < traces[i].length ? traces[i][k] : NONE);
            Check.due("THIRST, too", x.ask(1, 1), i == 3 ? 1 : NULL);
            for (int k = 0; k < 2; k++) Check.due("trace", x.trace(k), 11 - k);
            Check.due("COST, MARK, FIRST, NUMBER, KIND, DEPTH go on", x.ask(1, 2) + x.ask(1, 3) + x.ask(1, 4) + x.ask(1, 5)
                + x.ask(1, 6) + x.ask(1, 7), 6);
        }
        x.plant(2, CRESS, 1, 0, 0, 0);
        x.plant(1, GRAFT, 1, 1, 2, 15);
        Check.due("the first one's first", x.ask(1, 0), ZERO);
        x.plant(1, GRAFT, 1, 1, 15, 2);
        Check.due("the first one's first", x.ask(1, 0), NULL);
    }

    private static void leavesTheLongestTrace() {
        GlassHouse x = new GlassHouse();
        x.plant(0, CRESS, 6, 3, 0, 0);
        for (int depth = 1; depth <= 4; depth++) x.plant(0, GRAFT, 1, 1, 0, 0);
        Check.due("16 CRESSES, 15 GRAFTS", told(x, 0, 1), 2 * (3 + 16 * 2 + 15 * 3));
        int[] starts = {11, 10, 3, 3, 3, 3, 4, 1, 4, 1, 2, 1, 3, 4, 1, 4, 1, 2, 1, 2, 1};
        for (int i = 0; i < starts.length; i++) Check.due("BODY " + i, x.trace(i), starts[i]);
        Check.due("the last one", x.trace(78), 1);
        Check.due("the last but one", x.trace(77), 2);
        Check.due("no more", x.trace(79), NONE);
        for (int i : new int[] {-1, 80, 127, 128, LEAST, MOST}) Check.due("far", x.trace(i), NONE);
    }

    private static void emptiesTheTrace() {
        GlassHouse x = new GlassHouse();
        x.plant(0, TOMATO, 1, 1, 0, 0);
        x.plant(1, HERB, 1, 1, 0, 0);
        x.card(2);
        int[][] asks = {{1, 1}, {2, 0}, {15, 0}, {0, 4}, {0, 5}, {0, 6}, {0, 7}};
        for (int[] a : asks) {
            x.ask(0, 0);
            Check.due("two BODIES", x.trace(1), 1);
            x.ask(a[0], a[1]);
            Check.due("empty ahead of each ask", x.trace(0), NONE);
        }
        x.ask(0, 0);
        x.ask(16, 0);
        x.ask(0, 8);
        Check.due("the latest that was not BAD", x.trace(0), 2);
        x.plant(0, GRAFT, 1, 1, 0, 1);
        Check.due("the TRACE does not have FIRST", x.trace(0) * 10 + x.trace(1), 21);
        x.row(3, 4, 1);
        x.wholeMean(3);
        Check.due("a mean is no ask", x.trace(0), 2);
    }

    private static void keepsTheAnswer() {
        GlassHouse x = new GlassHouse();
        Check.due("0 before", x.answer(), 0);
        x.plant(0, HERB, 0, 1, 0, 0);
        Check.due("a FAULT", x.ask(0, 2), ZERO);
        Check.due("0 still", x.answer(), 0);
        x.ask(0, 3);
        Check.due("it told", x.answer(), 7);
        x.ask(0, 1);
        x.ask(15, 0);
        x.ask(0, 8);
        Check.due("the latest ask() that was 1", x.answer(), 7);
        x.step(0, 6, 0, 0, 1);
        Check.due("a RUN's ASK", x.run(0) + x.stock(1), 0);
        Check.due("tells the STOCK", x.answer(), 7);
    }

    private static void tellsFirst() {
        for (int kind = 0; kind < 6; kind++) {
            GlassHouse x = new GlassHouse();
            x.plant(0, kind, MOST, MOST, 15, 15);
            Check.due("its a and b being 0 yet", told(x, 0, 4), kind == GRAFT ? 9 : 7);
        }
    }

    private static void numbersCardsAsTheyCome() {
        GlassHouse x = new GlassHouse();
        for (int i = 0; i < 50; i++) Check.due("0, 1, .. as they come", x.card(i % 16), i);
        x.plant(0, HERB, 0, 0, 0, 0);
        Check.due("PLANTS have their own", x.card(0), 50);
        x.card(16);
        x.copy(1, 2, true);
        Check.due("a copy has come, too", x.card(0), 52);
        Check.due("its NUMBER", x.led(1, 2), 51);
    }

    private static void hasFieldsOfEachLane() {
        GlassHouse x = new GlassHouse();
        x.card(0);
        for (int lane = -1; lane <= 8; lane++) {
            boolean is = lane >= 0 && lane < 8;
            Check.due("field " + lane, x.field(0, lane), 0);
            Check.due("setField " + lane, x.setField(0, lane, 1), is ? 1 : BAD);
            Check.due("its own", x.field(0, lane), is ? 1 : 0);
            for (int other = lane + 1; other < 8; other++) Check.due("no other", other < 0 ? 0 : x.field(0, other), 0);
        }
        Check.due("no FAULT", x.told(2), 0);
    }

    private static void leadsToNothingItselfAndOthers() {
        GlassHouse x = new GlassHouse();
        x.card(0);
        for (int what = 0; what < 2; what++) {
            Check.due("NOTHING at first", x.follow(1, 0, what) * 10 + x.form(1), 10 - 1);
            Check.due("to NOTHING", x.lead(0, what, 15), 1);
        }
        Check.due("to itself", x.lead(0, 0, 0), 1);
        Check.due("itself", x.follow(1, 0, 0) * 10 + x.alike(0, 1), 12);
        for (int kind = 0; kind < 6; kind++) {
            x.plant(2, kind, 0, 0, 15, 15);
            Check.due("a LEAF of any KIND", x.lead(0, 1, 2), 1);
            Check.due("it", x.follow(3, 0, 1) * 10 + x.alike(2, 3), 12);
            Check.due("no NEXT", x.lead(0, 0, 2), CAST);
        }
        Check.due("a CARD is no LEAF", x.lead(0, 1, 0), CAST);
        for (int what : new int[] {-1, 2}) Check.due("what", x.lead(0, what, 0) + x.follow(1, 0, what), 2 * BAD);
        Check.due("CAST of either ahead of NULL", x.lead(15, 1, 0), CAST);
        Check.due("NULL", x.lead(15, 0, 0), NULL);
    }

    private static void goesAlongOneCardAndMany() {
        for (int many : new int[] {1, 2, 3, 60}) {
            for (int back = -1; back < many; back += Math.max(1, many / 3)) {
                GlassHouse x = new GlassHouse();
                x.card(0);
                x.share(1, 0);
                for (int i = 1; i < many; i++) {
                    x.card(2);
                    x.lead(1, 0, 2);
                    x.share(1, 2);
                }
                x.share(3, 0);
                for (int i = 0; i < back; i++) x.follow(3, 3, 0);
                if (back >= 0) x.lead(1, 0, 3);
                Check.due("how many CARDS", x.led(0, 0), many);
                Check.due("the one that comes a second time", x.led(0, 1), back);
                Check.due("the last one before", x.led(0, 2), many - 1);
                if (back >= 0) Check.due("from the last one on", x.led(1, 0) * 100 + x.led(1, 1), (many - back) * 100 + many - 1);
                for (int what : new int[] {-1, 3}) Check.due("what", x.led(0, what), BAD);
            }
        }
    }
}
