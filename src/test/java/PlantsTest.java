/** Promises 21 to 31: plants, trays, asks, cards. */
public final class PlantsTest {
    private static final int NULL = -11, SIZE = -13, CAST = -14, STORE = -15, ZERO = -16;
    private static final int BAD = GlassHouse.BAD, NONE = GlassHouse.NONE, FULL = GlassHouse.FULL;
    private static final int HERB = 0, TOMATO = 1, GRAFT = 2, CRESS = 3, PROBE = 4, VALVE = 5;

    public static void main(String[] args) {
        makesPlants();
        graftsToADepth();
        makesTrays();
        asksKinds();
        faultsLeaveTheTrace();
        wraps();
        tellsWithoutBodies();
        keepsCards();
        leadsOn();
        Check.end();
    }

    private static void makesPlants() {
        GlassHouse x = new GlassHouse();
        for (int kind = 0; kind < 6; kind++) Check.due("number", x.plant(kind, kind, 1, 1, 0, 0), kind);
        Check.due("things", x.told(1), 6);
        Check.due("kind 6", x.plant(0, 6, 1, 1, 0, 0), BAD);
        Check.due("kind -1", x.plant(0, -1, 1, 1, 0, 0), BAD);
        Check.due("bin", x.plant(16, 0, 1, 1, 0, 0), BAD);
        Check.due("p of a graft", x.plant(0, GRAFT, 1, 1, 16, 0), BAD);
        Check.due("q of a graft", x.plant(0, GRAFT, 1, 1, 0, NONE), BAD);
        Check.due("p and q of others", x.plant(0, HERB, 1, 1, -9, 99), 6);
        x.row(7, 4, 1);
        x.card(8);
        Check.due("a row as a part", x.plant(0, GRAFT, 1, 1, 7, 1), CAST);
        Check.due("a card as a part", x.plant(0, GRAFT, 1, 1, 1, 8), CAST);
        Check.due("the next number", x.plant(0, GRAFT, 1, 1, 9, 9), 7);
        Check.due("a graft of a probe and a valve", x.plant(0, GRAFT, 1, 1, PROBE, VALVE), 8);
        Check.due("form", x.form(0), 16);
    }

    private static void graftsToADepth() {
        GlassHouse x = new GlassHouse();
        x.plant(0, HERB, 1, 0, 0, 0);
        for (int depth = 1; depth <= 4; depth++) {
            Check.due("graft", x.plant(0, GRAFT, 1, 1, 0, 0), depth);
            x.ask(0, 7);
            Check.due("depth", x.answer(), depth);
        }
        int faults = x.told(2);
        Check.due("depth 5", x.plant(1, GRAFT, 1, 1, 0, 15), FULL);
        Check.due("depth 5", x.plant(1, GRAFT, 1, 1, 15, 0), FULL);
        x.card(2);
        Check.due("CAST ahead of depth", x.plant(1, GRAFT, 1, 1, 0, 2), CAST);
        Check.due("nothing made", x.form(1), NONE);
        Check.due("one fault", x.told(2), faults + 1);
        Check.due("no number used", x.plant(1, HERB, 1, 1, 0, 0), 5);
        Check.due("the deepest one's size", x.ask(0, 0), 1);
        Check.due("16 herbs, 15 grafts of 3", x.answer(), 16 + 15 * 3);
        Check.due("bodies: 15 grafts with three, 16 herbs", x.trace(60), 1);
        Check.due("and no more", x.trace(61), NONE);
        Check.due("first", x.trace(0) * 10000 + x.trace(1) * 1000 + x.trace(3) * 100 + x.trace(4) * 10 + x.trace(5), 33311);
    }

    private static void makesTrays() {
        GlassHouse x = new GlassHouse();
        for (int kind = 0; kind < 6; kind++) x.plant(kind, kind, 1, 1, 15, 15);
        int[][] takes = {{1, 1, 1, 1, 0, 0}, {0, 1, 1, 0, 0, 0}, {1, 0, 0, 1, 0, 0}, {0, 1, 1, 1, 0, 1}};
        x.card(8);
        x.row(9, 4, 1);
        for (int form = 12; form < 16; form++) {
            Check.due("tray", x.tray(7, form, 8), 1);
            Check.due("empty", x.size(7, 1), 8);
            for (int kind = 0; kind < 6; kind++) {
                Check.due("kind " + kind + " in " + form, x.set(7, 7, kind), takes[form - 12][kind] == 1 ? 1 : STORE);
            }
            Check.due("a card", x.set(7, 0, 8), STORE);
            Check.due("a row", x.set(7, 0, 9), STORE);
            Check.due("a tray", x.set(7, 0, 7), STORE);
        }
        Check.due("of none", x.tray(7, 12, 0), 1);
        Check.due("of 9", x.tray(7, 12, 9), BAD);
        Check.due("below none", x.tray(7, 12, -1), SIZE);
        Check.due("form 11", x.tray(7, 11, 1), BAD);
        Check.due("form 16", x.tray(7, 16, -1), BAD);
        Check.due("bin", x.tray(-1, 12, 1), BAD);
    }

    private static void asksKinds() {
        GlassHouse x = new GlassHouse();
        for (int kind = 0; kind < 6; kind++) x.plant(kind, kind, 8, 2, TOMATO, CRESS);
        // a = 8, b = 2: SIZE, THIRST, COST, MARK of each kind
        long[][] want = {
            {8, CAST, 625, 7},
            {18, 42, 625, 7},
            {18 + 4 + 18, 0, 625, 11},
            {4, 7, 632, 7},
            {8, CAST, 625, 7},
            {8, 2, CAST, 7}};
        // CRESS stood in bin 3 only behind the graft was made: its second part was nothing then
        x.plant(GRAFT, GRAFT, 8, 2, TOMATO, CRESS);
        want[2][1] = 2 * (3 + 40);
        for (int kind = 0; kind < 6; kind++) {
            for (int what = 0; what < 4; what++) {
                long got = x.ask(kind, what);
                Check.due("kind " + kind + " ask " + what, got == 1 ? x.answer() : got, want[kind][what]);
            }
        }
        trace(x, HERB, 0, 1);
        trace(x, HERB, 1);
        trace(x, HERB, 2, 20);
        trace(x, HERB, 3, 30);
        trace(x, TOMATO, 0, 2, 1);
        trace(x, TOMATO, 1, 11, 10, 2, 1);
        trace(x, TOMATO, 2, 20);
        trace(x, GRAFT, 0, 3, 2, 1, 4, 1, 2, 1);
        trace(x, GRAFT, 1, 11, 10, 3, 2, 1, 4, 1, 2, 1);
        trace(x, GRAFT, 2, 20);
        trace(x, GRAFT, 3, 31);
        trace(x, CRESS, 0, 4, 1);
        trace(x, CRESS, 1, 10, 4, 1);
        trace(x, CRESS, 2, 21, 20, 10, 4, 1);
        trace(x, PROBE, 2, 20);
        trace(x, PROBE, 1);
        trace(x, VALVE, 0, 1);
        trace(x, VALVE, 1, 12);
        trace(x, VALVE, 2);
        Check.due("ask 8", x.ask(0, 8), BAD);
        Check.due("ask -1", x.ask(0, -1), BAD);
        Check.due("ask bin", x.ask(16, 0), BAD);
        x.ask(HERB, 0);
        x.ask(HERB, 9);
        Check.due("BAD leaves the trace", x.trace(0), 1);
        x.row(8, 4, 1);
        Check.due("a row", x.ask(8, 3), CAST);
        Check.due("leaves none", x.trace(0), NONE);
        Check.due("nothing", x.ask(9, 3), NULL);
        Check.due("trace -1", x.trace(-1), NONE);
    }

    private static void faultsLeaveTheTrace() {
        GlassHouse x = new GlassHouse();
        x.plant(0, CRESS, 8, 0, 0, 0);
        x.plant(1, HERB, 0, 0, 0, 0);
        x.plant(2, GRAFT, 1, 1, 0, 1);
        x.plant(3, GRAFT, 1, 1, 1, 9);
        x.plant(4, GRAFT, 1, 1, 9, 0);
        x.ask(1, 3);
        Check.due("size by 0", x.ask(0, 0), ZERO);
        trace(x, 0, 0, 4, 1);
        Check.due("the answer stays", x.answer(), 7);
        Check.due("thirst by 0", x.ask(0, 1), ZERO);
        trace(x, 0, 1, 10, 4, 1);
        Check.due("cost by 0", x.ask(1, 2), ZERO);
        trace(x, 1, 2, 20);
        Check.due("cost of a cress", x.ask(0, 2), ZERO);
        trace(x, 0, 2, 21, 20, 10, 4, 1);
        Check.due("graft of it", x.ask(2, 0), ZERO);
        trace(x, 2, 0, 3, 4, 1);
        Check.due("graft without its second part", x.ask(3, 0), NULL);
        trace(x, 3, 0, 3, 1);
        Check.due("graft without its first part", x.ask(4, 1), NULL);
        trace(x, 4, 1, 11, 10, 3);
        Check.due("fault", x.fault(), 1);
        Check.due("its cost needs none", x.ask(4, 2), 1);
        Check.due("so", x.answer(), 5000);
        x.plant(5, CRESS, 0, 1, 0, 0);
        Check.due("21 begins, 20 fails", x.ask(5, 2), ZERO);
        trace(x, 5, 2, 21, 20);
    }

    private static void wraps() {
        GlassHouse x = new GlassHouse();
        x.plant(0, TOMATO, Integer.MAX_VALUE, 5, 0, 0);
        x.ask(0, 0);
        Check.due("size", x.answer(), 2 * Integer.MAX_VALUE + 5);
        x.plant(1, CRESS, Integer.MIN_VALUE, -1, 0, 0);
        x.ask(1, 0);
        Check.due("the least by -1", x.answer(), Integer.MIN_VALUE);
        x.plant(2, GRAFT, 0, Integer.MAX_VALUE, 0, 1);
        x.ask(2, 3);
        Check.due("mark", x.answer(), Integer.MAX_VALUE + 9);
        x.plant(3, HERB, -7, 0, 0, 0);
        x.ask(3, 2);
        Check.due("cost, cut", x.answer(), -714);
    }

    private static void tellsWithoutBodies() {
        GlassHouse x = new GlassHouse();
        for (int kind = 0; kind < 6; kind++) {
            x.plant(0, kind, 3, 4, 15, 15);
            long[] want = {kind == GRAFT ? 9 : 7, kind, kind, kind == GRAFT ? 1 : 0};
            for (int what = 4; what < 8; what++) {
                x.ask(0, 3);
                Check.due("ask", x.ask(0, what), 1);
                Check.due("kind " + kind + " what " + what, x.answer(), want[what - 4]);
                Check.due("no body", x.trace(0), NONE);
            }
        }
        Check.due("nothing", x.ask(1, 5), NULL);
        x.card(1);
        Check.due("a card", x.ask(1, 5), CAST);
    }

    private static void keepsCards() {
        GlassHouse x = new GlassHouse();
        Check.due("card", x.card(0), 0);
        Check.due("card", x.card(0), 1);
        Check.due("bin", x.card(16), BAD);
        Check.due("form", x.form(0), 17);
        long[] put = {3, 300, -1, 70000, 5000000000L, Long.MIN_VALUE, 0xFF800001L, 0x7FF8000000000001L};
        long[] want = {1, 44, 65535, 4464, 705032704L, Long.MIN_VALUE, 0x7FC00000L, 0x7FF8000000000000L};
        for (int lane = 0; lane < 8; lane++) {
            Check.due("at first", x.field(0, lane), 0);
            Check.due("setField", x.setField(0, lane, put[lane]), 1);
        }
        for (int lane = 0; lane < 8; lane++) Check.due("field " + lane, x.field(0, lane), want[lane]);
        x.row(1, 4, 8);
        Check.due("CAST", x.setField(1, 4, 1), CAST);
        Check.due("NULL", x.setField(2, 4, 1), NULL);
        Check.due("lane", x.setField(0, 8, 1), BAD);
        Check.due("bin", x.setField(-1, 0, 1), BAD);
        int faults = x.told(2);
        Check.due("field of a row", x.field(1, 4), 0);
        Check.due("CAST", x.fault(), 4);
        Check.due("field of nothing", x.field(2, 4), 0);
        Check.due("NULL", x.fault(), 1);
        Check.due("lane", x.field(0, -1), 0);
        Check.due("bin", x.field(16, 0), 0);
        Check.due("two faults", x.told(2), faults + 2);
    }

    private static void leadsOn() {
        GlassHouse x = new GlassHouse();
        for (int i = 0; i < 5; i++) x.card(i);
        x.plant(5, HERB, 1, 1, 0, 0);
        x.row(6, 4, 1);
        Check.all("alone", new long[] {x.led(0, 0), x.led(0, 1), x.led(0, 2)}, 1, NONE, 0);
        for (int i = 0; i < 4; i++) x.lead(i, 0, i + 1);
        Check.all("a chain", new long[] {x.led(0, 0), x.led(0, 1), x.led(0, 2), x.led(3, 0)}, 5, NONE, 4, 2);
        x.lead(4, 0, 2);
        Check.all("a ring", new long[] {x.led(0, 0), x.led(0, 1), x.led(0, 2)}, 5, 2, 4);
        Check.all("within it", new long[] {x.led(3, 0), x.led(3, 1), x.led(3, 2)}, 3, 3, 2);
        x.lead(0, 0, 0);
        Check.all("to itself", new long[] {x.led(0, 0), x.led(0, 1), x.led(0, 2)}, 1, 0, 0);
        Check.due("next to nothing", x.lead(0, 0, 9), 1);
        Check.due("again alone", x.led(0, 1), NONE);
        Check.due("a leaf", x.lead(0, 1, 5), 1);
        Check.due("follow it", x.follow(7, 0, 1), 1);
        Check.due("the plant", x.alike(7, 5), 2);
        Check.due("follow to nothing", x.follow(7, 0, 0), 1);
        Check.due("nothing", x.form(7), NONE);
        Check.due("follow in place", x.follow(1, 1, 0), 1);
        Check.due("is card 2", x.alike(1, 2), 2);
        Check.due("next is no plant", x.lead(0, 0, 5), CAST);
        Check.due("a leaf is no card", x.lead(0, 1, 1), CAST);
        Check.due("of a row", x.lead(6, 0, 0), CAST);
        Check.due("of nothing", x.lead(8, 0, 0), NULL);
        Check.due("CAST of either ahead of NULL", x.lead(8, 0, 5), CAST);
        Check.all("bad", new long[] {x.lead(16, 0, 0), x.lead(0, 2, 0), x.lead(0, -1, 0), x.lead(0, 0, 16),
            x.lead(0, 0, NONE)}, BAD, BAD, BAD, BAD, BAD);
        Check.all("follow", new long[] {x.follow(7, 6, 0), x.follow(7, 8, 0), x.follow(16, 0, 0), x.follow(0, 16, 0),
            x.follow(0, 0, 2)}, CAST, NULL, BAD, BAD, BAD);
        Check.all("led", new long[] {x.led(6, 0), x.led(8, 0), x.led(16, 0), x.led(0, 3), x.led(0, -1)},
            CAST, NULL, BAD, BAD, BAD);
    }

    private static void trace(GlassHouse x, int bin, int what, int... want) {
        x.ask(bin, what);
        for (int i = 0; i <= want.length; i++) {
            Check.due("bin " + bin + " ask " + what + " trace " + i, x.trace(i), i < want.length ? want[i] : NONE);
        }
    }
}
