import java.util.ArrayList;
import java.util.List;
import java.util.Map;
import java.util.function.Consumer;
import java.util.function.ToLongFunction;

/**
 * "What is refused changes nothing", and a call with a FAULT "changes nothing but as told": every call of the face, refused
 * in every way that the document names, in a house that is full of everything. Each row tells the answer that is due; then
 * all that the house tells, and does, must be as if the call had not come.
 */
public final class RefusedTest {
    private static final int BAD = GlassHouse.BAD, NONE = GlassHouse.NONE, NO = GlassHouse.NO, FULL = GlassHouse.FULL;
    private static final int NULL = 1, INDEX = 2, SIZE = 3, CAST = 4, STORE = 5, ZERO = 6;
    private static final int LEAST = Integer.MIN_VALUE, MOST = Integer.MAX_VALUE;
    private static final long NO_NUMBER = 0x7FF8000000000000L;

    private static final int INTS = House.INTS, GRID = House.GRID, STOREYS = House.STOREYS, TRAY = House.TRAY, TOMATO = House.TOMATO;
    private static final int GRAFT = House.GRAFT, CARD = House.CARD, DOUBLES = House.DOUBLES, FLOATS = House.FLOATS;
    private static final int SEVEN_SHORTS = House.SEVEN_SHORTS, TOMATO_TRAY = House.TOMATO_TRAY, BARE_GRID = House.BARE_GRID;
    private static final int CRESS_BY_0 = House.CRESS_BY_0, HERB_BY_0 = House.HERB_BY_0, EMPTY = House.EMPTY;

    private static final List<Map<String, Long>> AS_IT_WAS = new ArrayList<>();
    private static Consumer<GlassHouse> more;

    public static void main(String[] args) {
        behind(x -> { });
        onlyTells();
        refusesBins();
        refusesNumbersOfRows();
        refusesPlaces();
        refusesPlantsAndCards();
        refusesActs();
        refusesTables();
        refusesProbesAndAir();
        refusesWater();
        refusesPests();
        refusesPages();
        refusesInTheDark();
        refusesWithoutPages();
        refusesBehindTheGreatestNumber();
        refusesBehindTheThings();
        refusesBehindTheFaults();
        refusesDepths();
        refusesToShare();
        Check.end();
    }

    /** All rows that follow are called in a furnished house behind these calls. */
    private static void behind(Consumer<GlassHouse> calls) {
        more = calls;
        AS_IT_WAS.clear();
        for (int which = 0; which < House.LOOKS; which++) AS_IT_WAS.add(House.look(house(), which));
    }

    private static GlassHouse house() {
        GlassHouse x = House.furnished();
        more.accept(x);
        return x;
    }

    private static void bad(String call, ToLongFunction<GlassHouse> act) {
        refused(call, act, BAD);
    }

    /** An answer that is no fault; nothing at all may have changed. */
    private static void refused(String call, ToLongFunction<GlassHouse> act, long answer) {
        for (int which = 0; which < House.LOOKS; which++) {
            GlassHouse x = house();
            Check.due(call, act.applyAsLong(x), answer);
            compare(call, House.look(x, which), which, 0, "");
        }
    }

    private static void fault(int kind, String call, ToLongFunction<GlassHouse> act) {
        fault(kind, call, act, -10 - kind, "");
    }

    private static void bitsFault(int kind, String call, ToLongFunction<GlassHouse> act) {
        fault(kind, call, act, 0, "");
    }

    /** A fault is counted and told; of what else it changes, as told, the names begin as given. */
    private static void fault(int kind, String call, ToLongFunction<GlassHouse> act, long answer, String butFor) {
        for (int which = 0; which < House.LOOKS; which++) {
            GlassHouse x = house();
            Check.due(call, act.applyAsLong(x), answer);
            Check.due(call + ": fault", x.fault(), kind);
            compare(call, House.look(x, which), which, kind, butFor);
        }
    }

    private static void compare(String call, Map<String, Long> told, int which, int kind, String butFor) {
        Map<String, Long> was = AS_IT_WAS.get(which);
        Check.due(call + ": names", told.size(), was.size());
        for (Map.Entry<String, Long> one : told.entrySet()) {
            String name = one.getKey();
            if (!butFor.isEmpty() && name.startsWith(butFor)) continue;
            long want = was.getOrDefault(name, Long.MIN_VALUE);
            if (kind != 0 && name.equals("fault")) want = kind;
            if (kind != 0 && name.equals("told 2")) want++;
            Check.due(call + " has changed " + name, one.getValue(), want);
        }
    }

    private static void refusesBins() {
        for (int bin : new int[] {-1, 16, LEAST, MOST}) {
            bad("row", x -> x.row(bin, 4, 1));
            bad("grid", x -> x.grid(bin, 9, 1, 1, false));
            bad("storeys", x -> x.storeys(bin, 1));
            bad("share to", x -> x.share(bin, 0));
            bad("form", x -> x.form(bin));
            bad("is", x -> x.is(bin, 4));
            refused("get", x -> x.get(bin, 4, 0), 0);
            bad("put", x -> x.put(bin, 4, 0, 5));
            refused("bed", x -> x.bed(bin, 9, 0, 0), 0);
            bad("setBed", x -> x.setBed(bin, 9, 0, 0, 5));
            refused("countUp", x -> x.countUp(bin, 0, 0, 0, true), 0);
            bad("set", x -> x.set(bin, 0, INTS));
            bad("set from", x -> x.set(GRID, 0, bin));
            bad("lift", x -> x.lift(bin, GRID, 0));
            bad("lift from", x -> x.lift(EMPTY, bin, 0));
            bad("liftAs", x -> x.liftAs(bin, GRID, 0, 4));
            bad("liftAs from", x -> x.liftAs(EMPTY, bin, 0, 4));
            bad("shift", x -> x.shift(bin, 0, INTS, 0, 1));
            bad("shift to", x -> x.shift(INTS, 0, bin, 0, 1));
            bad("copy", x -> x.copy(bin, INTS, true));
            bad("copy from", x -> x.copy(EMPTY, bin, true));
            bad("alike", x -> x.alike(bin, INTS));
            bad("alike other", x -> x.alike(INTS, bin));
            bad("size", x -> x.size(bin, 0));
            bad("plant", x -> x.plant(bin, 0, 1, 1, 0, 0));
            bad("plant p", x -> x.plant(EMPTY, 2, 1, 1, bin, TOMATO));
            bad("plant q", x -> x.plant(EMPTY, 2, 1, 1, TOMATO, bin));
            bad("tray", x -> x.tray(bin, 12, 1));
            bad("ask", x -> x.ask(bin, 0));
            bad("card", x -> x.card(bin));
            refused("field", x -> x.field(bin, 4), 0);
            bad("setField", x -> x.setField(bin, 4, 5));
            bad("lead", x -> x.lead(bin, 0, CARD));
            bad("lead from", x -> x.lead(CARD, 0, bin));
            bad("follow", x -> x.follow(bin, CARD, 0));
            bad("follow from", x -> x.follow(EMPTY, bin, 0));
            bad("led", x -> x.led(bin, 0));
            bad("shares", x -> x.shares(bin, 5, EMPTY));
            bad("shares to", x -> x.shares(INTS, 5, bin));
            bad("compare", x -> x.compare(7, bin, 0, DOUBLES, 0));
            bad("compare other", x -> x.compare(7, DOUBLES, 0, bin, 0));
            refused("real", x -> x.real(7, bin, 1), 0);
            bad("wholeMean", x -> x.wholeMean(bin));
            bad("write", x -> x.write(bin));
        }
        for (int from : new int[] {-2, 16, LEAST, MOST}) bad("share from", x -> x.share(INTS, from));
    }

    private static void refusesNumbersOfRows() {
        for (int lane : new int[] {-1, 8, LEAST, MOST}) {
            bad("row", x -> x.row(INTS, lane, 1));
            refused("get", x -> x.get(INTS, lane, 0), 0);
            bad("put", x -> x.put(INTS, lane, 0, 5));
            refused("field", x -> x.field(CARD, lane), 0);
            bad("setField", x -> x.setField(CARD, lane, 5));
        }
        for (int n : new int[] {41, MOST}) {
            bad("row", x -> x.row(INTS, 4, n));
            bad("grid", x -> x.grid(GRID, 9, 1, n, false));
            bad("bare grid", x -> x.grid(GRID, 9, 1, n, true));
        }
        for (int form : new int[] {-1, 0, 7, 11, 12, 17, 18, LEAST, MOST}) {
            bad("grid", x -> x.grid(GRID, form, 1, 1, false));
            refused("bed", x -> x.bed(GRID, form, 1, 1), 0);
            bad("setBed", x -> x.setBed(GRID, form, 1, 1, 5));
        }
        for (int a : new int[] {11, MOST}) bad("grid", x -> x.grid(GRID, 9, a, 1, false));
        for (int n : new int[] {5, MOST}) bad("storeys", x -> x.storeys(STOREYS, n));
        for (int n : new int[] {-1, LEAST}) {
            fault(SIZE, "row", x -> x.row(INTS, 4, n));
            fault(SIZE, "grid of a", x -> x.grid(GRID, 9, n, 1, false));
            fault(SIZE, "bare grid of a", x -> x.grid(GRID, 9, n, 1, true));
            fault(SIZE, "grid of n", x -> x.grid(GRID, 9, 1, n, false));
            fault(SIZE, "grid of no bays", x -> x.grid(GRID, 9, 0, n, false));
            fault(SIZE, "storeys", x -> x.storeys(STOREYS, n));
            fault(SIZE, "tray", x -> x.tray(TRAY, 12, n));
        }
        for (int form : new int[] {-1, 18, LEAST, MOST}) {
            bad("is", x -> x.is(INTS, form));
            bad("is of nothing", x -> x.is(EMPTY, form));
            bad("liftAs", x -> x.liftAs(EMPTY, GRID, 0, form));
        }
        for (int i : new int[] {-1, 4, LEAST, MOST}) {
            bitsFault(INDEX, "get", x -> x.get(INTS, 4, i));
            fault(INDEX, "put", x -> x.put(INTS, 4, i, 5));
        }
        for (int lane = 0; lane < 8; lane++) {
            int asked = lane;
            if (lane != 4) {
                bitsFault(CAST, "get", x -> x.get(INTS, asked, 0));
                fault(CAST, "put", x -> x.put(INTS, asked, 99, 5));
            }
            bitsFault(NULL, "get", x -> x.get(EMPTY, asked, 0));
            fault(NULL, "put", x -> x.put(EMPTY, asked, -1, 5));
        }
        for (int bin : new int[] {GRID, STOREYS, TRAY, TOMATO, CARD}) bitsFault(CAST, "get", x -> x.get(bin, 4, 0));
        for (int what : new int[] {-1, 2, LEAST, MOST}) bad("size", x -> x.size(INTS, what));
        fault(CAST, "size of a plant", x -> x.size(TOMATO, 0));
        fault(CAST, "size of a card", x -> x.size(CARD, 1));
        fault(NULL, "size of nothing", x -> x.size(EMPTY, 1));
    }

    private static void refusesPlaces() {
        int[][] beds = {{STOREYS, 9, 0, 0, CAST}, {GRID, 8, 0, 0, CAST}, {GRID, 10, 9, 9, CAST}, {INTS, 9, 0, 0, CAST}, {EMPTY, 9, 9, 9, NULL},
            {GRID, 9, -1, 9, INDEX}, {GRID, 9, 2, 0, INDEX}, {BARE_GRID, 10, 1, 9, NULL}, {GRID, 9, 0, 3, INDEX}, {GRID, 9, 0, -1, INDEX},
            {GRID, 9, 1, 4, INDEX}};
        for (int[] r : beds) {
            bitsFault(r[4], "bed", x -> x.bed(r[0], r[1], r[2], r[3]));
            fault(r[4], "setBed", x -> x.setBed(r[0], r[1], r[2], r[3], 5));
        }
        int[][] counts = {{GRID, 0, 0, 0, CAST}, {TRAY, 0, 0, 0, CAST}, {EMPTY, 9, 9, 9, NULL}, {STOREYS, -1, 0, 0, INDEX},
            {STOREYS, 3, 0, 0, INDEX}, {STOREYS, 2, 9, 9, NULL}, {STOREYS, 0, -1, 9, INDEX}, {STOREYS, 0, 2, 9, INDEX},
            {STOREYS, 1, 0, 9, NULL}, {STOREYS, 0, 0, 3, INDEX}, {STOREYS, 0, 1, -1, INDEX}};
        for (int[] r : counts) bitsFault(r[4], "countUp", x -> x.countUp(r[0], r[1], r[2], r[3], true));
        int[][] sets = {{INTS, 0, INTS, CAST}, {TOMATO, 0, EMPTY, CAST}, {CARD, 0, EMPTY, CAST}, {EMPTY, 9, CARD, NULL},
            {GRID, 2, CARD, INDEX}, {GRID, -1, INTS, INDEX}, {GRID, 0, SEVEN_SHORTS, STORE}, {GRID, 0, GRID, STORE},
            {STOREYS, 0, INTS, STORE}, {STOREYS, 0, BARE_GRID, STORE}, {STOREYS, 0, STOREYS, STORE}, {TRAY, 0, CARD, STORE},
            {TRAY, 0, TRAY, STORE}, {TOMATO_TRAY, 0, CRESS_BY_0, STORE}, {TOMATO_TRAY, 1, HERB_BY_0, STORE}};
        for (int[] r : sets) fault(r[3], "set", x -> x.set(r[0], r[1], r[2]));
        int[][] lifts = {{INTS, 0, CAST}, {TOMATO, 9, CAST}, {CARD, 0, CAST}, {EMPTY, 9, NULL}, {GRID, 2, INDEX}, {GRID, -1, INDEX},
            {TRAY, 3, INDEX}, {STOREYS, MOST, INDEX}};
        for (int[] r : lifts) {
            fault(r[2], "lift", x -> x.lift(GRAFT, r[0], r[1]));
            fault(r[2], "liftAs", x -> x.liftAs(GRAFT, r[0], r[1], 4));
        }
        fault(CAST, "liftAs: the bin stays", x -> x.liftAs(GRAFT, GRID, 0, 3));
        fault(CAST, "liftAs: a tray is no plant", x -> x.liftAs(GRAFT, TRAY, 1, 12));
        int[][] shifts = {{EMPTY, 0, INTS, 0, 1, NULL}, {INTS, 0, EMPTY, 0, 1, NULL}, {CARD, -1, EMPTY, 0, 1, NULL}, {CARD, 0, CARD, 0, 0, STORE},
            {TOMATO, 0, TRAY, 0, 0, STORE}, {TRAY, 0, TOMATO, 0, 0, STORE}, {INTS, -1, SEVEN_SHORTS, 0, 0, STORE}, {INTS, 0, GRID, 0, 0, STORE},
            {GRID, 0, INTS, 9, 0, STORE}, {INTS, -1, INTS, 0, 1, INDEX}, {INTS, 0, INTS, -1, 1, INDEX}, {INTS, 0, INTS, 0, -1, INDEX},
            {INTS, 0, INTS, 0, 5, INDEX}, {INTS, 2, INTS, 0, 3, INDEX}, {INTS, 0, INTS, 2, 3, INDEX}, {INTS, 5, INTS, 0, 0, INDEX},
            {INTS, 0, INTS, 5, 0, INDEX}, {INTS, MOST, INTS, 0, MOST, INDEX}, {TRAY, 0, TOMATO_TRAY, 0, 3, INDEX},
            {TRAY, 2, TOMATO_TRAY, 0, 2, INDEX}, {TRAY, 0, TOMATO_TRAY, 0, 2, STORE}, {GRID, 0, BARE_GRID, 0, 2, STORE}};
        for (int[] r : shifts) {
            fault(r[5], "shift " + r[0] + " " + r[2], x -> {
                long answer = x.shift(r[0], r[1], r[2], r[3], r[4]);
                Check.due("none came", x.came(), 0);
                return answer;
            }, -10 - r[5], "came");
        }
    }

    private static void refusesPlantsAndCards() {
        for (int kind : new int[] {-1, 6, LEAST, MOST}) bad("plant", x -> x.plant(TOMATO, kind, 1, 1, 0, 0));
        fault(CAST, "plant of a row", x -> x.plant(GRAFT, 2, 1, 1, INTS, EMPTY));
        fault(CAST, "plant of a card", x -> x.plant(GRAFT, 2, 1, 1, TOMATO, CARD));
        fault(CAST, "plant of a tray", x -> x.plant(GRAFT, 2, 1, 1, TRAY, TRAY));
        for (int n : new int[] {9, MOST}) bad("tray", x -> x.tray(TRAY, 12, n));
        for (int form : new int[] {-1, 0, 11, 16, 18, LEAST, MOST}) bad("tray", x -> x.tray(TRAY, form, 1));
        for (int what : new int[] {-1, 8, LEAST, MOST}) bad("ask", x -> x.ask(TOMATO, what));
        for (int what = 0; what < 8; what++) {
            int asked = what;
            fault(CAST, "ask of a row", x -> x.ask(INTS, asked), -14, "trace");
            fault(CAST, "ask of a card", x -> x.ask(CARD, asked), -14, "trace");
            fault(NULL, "ask of nothing", x -> x.ask(EMPTY, asked), -11, "trace");
        }
        fault(CAST, "it does not THIRST", x -> x.ask(HERB_BY_0, 1), -14, "trace");
        fault(ZERO, "SIZE by 0", x -> x.ask(CRESS_BY_0, 0), -16, "trace");
        fault(ZERO, "COST by 0", x -> x.ask(HERB_BY_0, 2), -16, "trace");
        fault(NULL, "SIZE of no part", x -> x.ask(GRAFT, 0), -11, "trace");
        for (int lane = 0; lane < 8; lane++) {
            int asked = lane;
            bitsFault(CAST, "field", x -> x.field(INTS, asked));
            bitsFault(NULL, "field", x -> x.field(EMPTY, asked));
            fault(CAST, "setField", x -> x.setField(TOMATO, asked, 5));
            fault(NULL, "setField", x -> x.setField(EMPTY, asked, 5));
        }
        for (int what : new int[] {-1, 2, LEAST, MOST}) {
            bad("lead", x -> x.lead(CARD, what, EMPTY));
            bad("follow", x -> x.follow(INTS, CARD, what));
        }
        int[][] leads = {{INTS, 0, CARD, CAST}, {CARD, 0, TOMATO, CAST}, {CARD, 1, CARD, CAST}, {CARD, 1, INTS, CAST}, {EMPTY, 0, TOMATO, CAST},
            {EMPTY, 0, CARD, NULL}, {EMPTY, 1, EMPTY, NULL}};
        for (int[] r : leads) fault(r[3], "lead", x -> x.lead(r[0], r[1], r[2]));
        for (int what = 0; what < 2; what++) {
            int asked = what;
            fault(CAST, "follow", x -> x.follow(INTS, TRAY, asked));
            fault(NULL, "follow", x -> x.follow(INTS, EMPTY, asked));
        }
        for (int what : new int[] {-1, 3, LEAST, MOST}) bad("led", x -> x.led(CARD, what));
        for (int what = 0; what < 3; what++) {
            int asked = what;
            fault(CAST, "led", x -> x.led(GRID, asked));
            fault(NULL, "led", x -> x.led(EMPTY, asked));
        }
    }

    private static void refusesActs() {
        for (int plan : new int[] {-1, 4, LEAST, MOST}) {
            bad("step", x -> x.step(plan, 1, 0, 1, 0));
            bad("drop", x -> x.drop(plan));
            refused("formed", x -> x.formed(plan), 0);
            bad("run", x -> x.run(plan));
        }
        for (int op : new int[] {-1, 21, LEAST, MOST}) bad("step", x -> x.step(House.STRAY_PLAN, op, 0, 1, 0));
        refused("step", x -> x.step(House.FULL_PLAN, 1, 0, 1, 0), FULL);
        bad("BAD ahead of FULL", x -> x.step(House.FULL_PLAN, 21, 0, 1, 0));
        refused("run", x -> x.run(House.OPEN_PLAN), NO);
        refused("run", x -> x.run(House.STRAY_PLAN), NO);
        for (int what : new int[] {-1, 9, LEAST, MOST}) bad("ran", x -> x.ran(what));
        for (int k : new int[] {-1, 6, LEAST, MOST}) {
            refused("stock", x -> x.stock(k), 0);
            bad("setStock", x -> x.setStock(k, 5));
        }
        for (int v : new int[] {-1, 3, LEAST, MOST}) refused("valve", x -> x.valve(v, 0), 0);
        for (int what : new int[] {-1, 2, LEAST, MOST}) refused("valve", x -> x.valve(1, what), 0);
    }

    private static void refusesTables() {
        for (int table : new int[] {-1, 3, LEAST, MOST}) {
            bad("line", x -> x.line(table, 0, 0));
            bad("rest", x -> x.rest(table, 0));
            refused("value", x -> x.value(table, 0), 0);
        }
        for (int on : new int[] {-2, 3, LEAST, MOST}) {
            bad("rest on", x -> x.rest(2, on));
            bad("BAD ahead of NO", x -> x.rest(0, on));
        }
        for (int far : new int[] {-1000001, 1000001, LEAST, MOST}) {
            bad("line x", x -> x.line(2, far, 0));
            bad("line y", x -> x.line(2, 0, far));
        }
        bad("the same x", x -> x.line(1, -3, 0));
        bad("a lesser x", x -> x.line(1, -4, 0));
        bad("BAD ahead of FULL", x -> x.line(0, 35, 0));
        refused("line", x -> x.line(0, 36, 0), FULL);
        for (int on = -1; on < 3; on++) {
            int asked = on;
            refused("rest of one that is laid", x -> x.rest(0, asked), NO);
        }
        for (int k : new int[] {-1, 2, 3, LEAST, MOST}) refused("laid", x -> x.laid(k), NONE);
    }

    private static void refusesProbesAndAir() {
        for (int probe : new int[] {-1, 9, LEAST, MOST}) {
            bad("read", x -> x.read(probe, 0));
            bad("probe", x -> x.probe(probe, 0));
        }
        for (int what : new int[] {-1, 5, LEAST, MOST}) bad("probe", x -> x.probe(0, what));
        long[] parts = {NO_NUMBER, 0x7FF0000000000001L, -1L, 0xFFF8000000000000L, 0x8000000000000001L, 0xFFF0000000000000L,
            Double.doubleToLongBits(-0.5)};
        for (long part : parts) bad("part", x -> x.part(part));
        for (int house : new int[] {-1, 3, LEAST, MOST}) {
            refused("voted", x -> x.voted(house), 0);
            bad("mark", x -> x.mark(house, 1000, 0));
            bad("unmark", x -> x.unmark(house));
            refused("wish", x -> x.wish(house, 0), -100000);
            refused("air", x -> x.air(house, 0), 0);
        }
        int[] least = {0, -40000, 0, 0, 0};
        int[] most = {1000, 60000, 40000, 1, 1};
        for (int what = 0; what < 5; what++) {
            int asked = what;
            for (int v : new int[] {least[what] - 1, most[what] + 1, LEAST, MOST}) refused("weather", x -> x.weather(asked, v), -100000);
        }
        for (int what : new int[] {-1, 5, LEAST, MOST}) refused("weather", x -> x.weather(what, 0), -100000);
        for (int minute : new int[] {-1, 1440, LEAST, MOST}) {
            bad("mark", x -> x.mark(2, minute, 0));
            refused("wish", x -> x.wish(0, minute), -100000);
        }
        for (int wish : new int[] {-50001, 60001, LEAST, MOST}) bad("mark", x -> x.mark(2, 0, wish));
        bad("the same minute", x -> x.mark(1, 7, 0));
        bad("a lesser minute", x -> x.mark(1, 6, 0));
        bad("BAD ahead of FULL", x -> x.mark(0, 255, 0));
        refused("mark", x -> x.mark(0, 256, 0), FULL);
        refused("wish without marks", x -> x.wish(2, 0), -100001);
        for (int n : new int[] {0, 101, -1}) bad("minute", x -> x.minute(n));
        Check.soFar();
        for (int n : new int[] {LEAST, MOST}) bad("minute", x -> x.minute(n));
        for (int what : new int[] {-1, 11, LEAST, MOST}) refused("air", x -> x.air(0, what), 0);
    }

    private static void refusesWater() {
        for (int n : new int[] {-1, 1000000001, LEAST, MOST}) bad("shares", x -> x.shares(INTS, n, EMPTY));
        bad("BAD ahead of CAST", x -> x.shares(TOMATO, -1, EMPTY));
        fault(CAST, "shares", x -> x.shares(SEVEN_SHORTS, 5, TOMATO));
        fault(CAST, "shares", x -> x.shares(CARD, 5, TOMATO));
        fault(NULL, "shares", x -> x.shares(EMPTY, 5, TOMATO));
        for (int lane : new int[] {-1, 0, 3, 6, 7, 8, LEAST, MOST}) refused("quotient", x -> x.quotient(lane, 5, 0, 0), 0);
        for (int what : new int[] {-1, 2, LEAST, MOST}) refused("quotient", x -> x.quotient(4, 5, 0, what), 0);
        for (int what = 0; what < 2; what++) {
            int asked = what;
            bitsFault(ZERO, "quotient", x -> x.quotient(4, 5, 0, asked));
            bitsFault(ZERO, "quotient by 2 to the 32", x -> x.quotient(4, 5, 1L << 32, asked));
            bitsFault(ZERO, "quotient", x -> x.quotient(5, 5, 0, asked));
        }
        for (int lane : new int[] {-1, 0, 4, 5, 8, LEAST, MOST}) {
            bad("compare", x -> x.compare(lane, DOUBLES, 0, DOUBLES, 0));
            refused("real", x -> x.real(lane, DOUBLES, 1), 0);
        }
        int[][] compares = {{7, FLOATS, 9, EMPTY, 0, CAST}, {7, EMPTY, 0, FLOATS, 9, CAST}, {6, DOUBLES, 0, DOUBLES, 0, CAST},
            {7, EMPTY, 0, DOUBLES, 9, NULL}, {7, DOUBLES, 0, EMPTY, 0, NULL}, {7, DOUBLES, 3, EMPTY, 0, INDEX}, {7, DOUBLES, -1, DOUBLES, 0, INDEX},
            {7, DOUBLES, 0, DOUBLES, 3, INDEX}, {6, FLOATS, 0, FLOATS, -1, INDEX}, {6, FLOATS, 2, FLOATS, 0, INDEX}};
        for (int[] r : compares) fault(r[5], "compare", x -> x.compare(r[0], r[1], r[2], r[3], r[4]));
        for (int what : new int[] {-1, 4, LEAST, MOST}) refused("real", x -> x.real(7, DOUBLES, what), 0);
        for (int what = 0; what < 4; what++) {
            int asked = what;
            bitsFault(CAST, "real", x -> x.real(6, DOUBLES, asked));
            bitsFault(NULL, "real", x -> x.real(6, EMPTY, asked));
        }
        fault(CAST, "wholeMean", x -> x.wholeMean(DOUBLES));
        fault(NULL, "wholeMean", x -> x.wholeMean(EMPTY));
        for (int salt : new int[] {-1, 6, LEAST, MOST}) bad("salt", x -> x.salt(salt, 0, 0));
        for (int j : new int[] {-1, 3, LEAST, MOST}) bad("salt", x -> x.salt(0, j, 0));
        for (int s = 0; s < 6; s++) {
            int asked = s;
            for (int v : new int[] {-1, s < 4 ? 100 : 1000, LEAST, MOST}) bad("salt", x -> x.salt(asked, 0, v));
        }
        for (int what : new int[] {-1, 4, LEAST, MOST}) refused("worked", x -> x.worked(what, 0), 0);
        for (int k : new int[] {-1, 4, LEAST, MOST}) for (int what = 0; what < 3; what++) {
            int asked = what;
            refused("worked", x -> x.worked(asked, k), 0);
        }
    }

    private static void refusesPests() {
        for (int pest : new int[] {-1, 2, LEAST, MOST}) {
            bad("count", x -> x.count(pest, 0, 5));
            bad("parts", x -> x.parts(pest, 0, 5, 5, 5));
            bad("spray", x -> x.spray(pest));
            bad("pest", x -> x.pest(pest, 0));
        }
        for (int stage : new int[] {-1, 4, LEAST, MOST}) {
            bad("count", x -> x.count(1, stage, 5));
            bad("parts", x -> x.parts(1, stage, 5, 5, 5));
            bad("pest", x -> x.pest(1, stage));
        }
        for (int n : new int[] {-1, 1000000001, LEAST, MOST}) bad("count", x -> x.count(1, 0, n));
        for (int part : new int[] {-1, 1001, LEAST, MOST}) {
            bad("parts", x -> x.parts(1, 0, part, 5, 5));
            bad("parts", x -> x.parts(1, 0, 5, part, 5));
            bad("parts", x -> x.parts(1, 0, 5, 5, part));
        }
        for (int n : new int[] {0, 51, -1}) bad("day", x -> x.day(n));
        Check.soFar();
        for (int n : new int[] {LEAST, MOST}) bad("day", x -> x.day(n));
    }

    private static void refusesPages() {
        fault(CAST, "write of doubles", x -> x.write(DOUBLES));
        fault(CAST, "write of a grid", x -> x.write(GRID));
        fault(CAST, "write of a plant", x -> x.write(TOMATO));
        fault(NULL, "write of nothing", x -> x.write(EMPTY));
        refused("write of seven", x -> x.write(SEVEN_SHORTS), FULL);
        for (int n : new int[] {-2, 201, LEAST, MOST}) bad("power", x -> x.power(n));
        int[][] none = {{-1, 0}, {2, 0}, {LEAST, 1}, {MOST, 1}, {0, -1}, {0, 4}, {0, 9}, {0, 14}, {0, 15}, {0, 16}, {0, LEAST}, {0, MOST}};
        for (int[] r : none) refused("page", x -> x.page(r[0], r[1]), NONE);
        for (int page : new int[] {-1, 20, LEAST, MOST}) {
            bad("octet", x -> x.octet(page, 0));
            bad("damage", x -> x.damage(page, 0, 1));
        }
        for (int i : new int[] {-1, 64, LEAST, MOST}) {
            bad("octet", x -> x.octet(1, i));
            bad("damage", x -> x.damage(1, i, 1));
        }
        for (int mask : new int[] {-1, 256, LEAST, MOST}) bad("damage", x -> x.damage(1, 5, mask));
        for (int what : new int[] {-1, 11, LEAST, MOST}) bad("told", x -> x.told(what));
    }

    /** Calls that tell something, and find it, change nothing either. */
    private static void onlyTells() {
        refused("form", x -> x.form(INTS), 4);
        refused("form of nothing", x -> x.form(EMPTY), NONE);
        refused("is", x -> x.is(TOMATO, 13), 1);
        refused("is not", x -> x.is(EMPTY, 13), 0);
        refused("get", x -> x.get(INTS, 4, 3), 10);
        refused("bed", x -> x.bed(GRID, 9, 0, 2), -5);
        refused("came", x -> x.came(), 2);
        refused("alike", x -> x.alike(INTS, GRID), 0);
        refused("alike", x -> x.alike(INTS, INTS), 2);
        refused("size", x -> x.size(STOREYS, 1), 1);
        refused("answer", x -> x.answer(), 28);
        refused("trace", x -> x.trace(3), 1);
        refused("trace", x -> x.trace(4), NONE);
        refused("field", x -> x.field(CARD, 4), 77);
        refused("led", x -> x.led(CARD, 0), 2);
        refused("formed", x -> x.formed(House.FORMED_PLAN), NONE);
        refused("formed", x -> x.formed(House.OPEN_PLAN), 1);
        refused("formed", x -> x.formed(House.STRAY_PLAN), 1);
        refused("ran", x -> x.ran(2), 9);
        refused("stock", x -> x.stock(5), 15);
        refused("valve", x -> x.valve(1, 0), 6);
        refused("value of one that is laid", x -> x.value(0, 5), 101);
        refused("laid", x -> x.laid(0), 1);
        refused("probe", x -> x.probe(6, 1), 1);
        refused("voted", x -> x.voted(0), Double.doubleToLongBits(23));
        refused("wish", x -> x.wish(0, 5), 0);
        refused("air", x -> x.air(0, 5), 4000);
        refused("quotient", x -> x.quotient(5, 7, 2, 1), 1);
        refused("compare", x -> x.compare(7, DOUBLES, 0, DOUBLES, 1), 1 + 2 + 32);
        refused("real", x -> x.real(7, DOUBLES, 1), Double.doubleToLongBits(2.5));
        refused("worked", x -> x.worked(3, 0), 3);
        refused("pest", x -> x.pest(1, 0), 29);
        refused("wait1", x -> x.wait1(), 7);
        refused("page", x -> x.page(1, 1), 2);
        refused("octet", x -> x.octet(1, 3), 2);
        refused("told", x -> x.told(1), 18);
        refused("told", x -> x.told(6), 0);
        refused("fault", x -> x.fault(), NULL);
    }

    private static void refusesInTheDark() {
        behind(x -> {
            x.power(0);
            x.write(INTS);
        });
        refused("it is dark", x -> x.told(5), 1);
        refused("write", x -> x.write(INTS), NO);
        refused("NO ahead of FULL", x -> x.write(SEVEN_SHORTS), NO);
        fault(CAST, "CAST ahead of NO", x -> x.write(DOUBLES));
        fault(NULL, "NULL ahead of NO", x -> x.write(EMPTY));
        bad("BAD ahead of NO", x -> x.write(16));
        for (int n : new int[] {NONE, 0, 64, 200}) refused("power", x -> x.power(n), NO);
        for (int n : new int[] {-2, 201}) bad("BAD ahead of NO", x -> x.power(n));
    }

    private static void refusesWithoutPages() {
        behind(x -> {
            x.power(NONE);
            for (int i = 0; i < 18; i++) x.write(INTS);
            x.power(30);
        });
        refused("no page", x -> x.told(4), 20);
        refused("write", x -> x.write(INTS), FULL);
        fault(CAST, "CAST ahead of FULL", x -> x.write(FLOATS));
        fault(NULL, "NULL ahead of FULL", x -> x.write(EMPTY));
        refused("and power is not used", x -> x.write(INTS) + x.write(INTS) + x.told(5), 2 * FULL);
    }

    private static void refusesBehindTheGreatestNumber() {
        behind(x -> {
            x.power(NONE);
            byte[] page = {127, -1, -1, -1, 4};
            int sum = 0;
            for (int i = 0; i < 60; i++) sum = Integer.rotateLeft(sum ^ (i < 5 ? page[i] & 255 : 0), 11) * 0xC2B2AE35;
            for (int i = 0; i < 5; i++) x.damage(3, i, page[i] & 255);
            for (int i = 0; i < 4; i++) x.damage(3, 60 + i, sum >>> 24 - 8 * i & 255);
            x.open1();
        });
        refused("the greatest number", x -> x.told(3), MOST);
        refused("write", x -> x.write(INTS), FULL);
    }

    private static void refusesBehindTheThings() {
        behind(x -> {
            // 45 things by each copy: storeys, four grids, and ten rows in each.
            x.grid(GRAFT, 9, 10, 0, false);
            x.storeys(HERB_BY_0, 4);
            for (int i = 0; i < 4; i++) x.set(HERB_BY_0, i, GRAFT);
            for (int i = 0; i < 88; i++) x.copy(EMPTY, HERB_BY_0, true);
            for (int i = 0; i < 10; i++) x.card(EMPTY);
            x.share(EMPTY, NONE);
        });
        refused("4000 things", x -> x.told(1), 4000);
        refusesToMake();
    }

    private static void refusesBehindTheFaults() {
        behind(x -> {
            x.setStock(0, 5000);
            x.drop(House.OPEN_PLAN);
            int[][] steps = {{20, 0}, {1, -1}, {16, 0}, {7, 0}, {0, 0}, {17, 0}, {0, 0}, {0, 0}};
            for (int[] s : steps) x.step(House.OPEN_PLAN, s[0], 0, s[1], 0);
            // 300 steps of LOOP, ADD, TRY and FAIL are 75 faults; three came before.
            for (int i = 0; i < 39; i++) x.run(House.OPEN_PLAN);
            x.setStock(0, 72);
            x.run(House.OPEN_PLAN);
            x.drop(House.OPEN_PLAN);
            x.step(House.OPEN_PLAN, 14, 0, 0, 0);
        });
        refused("3000 faults", x -> x.told(2), 3000);
        refusesToMake();
    }

    /** As many came, or were made, already. */
    private static void refusesToMake() {
        refused("row", x -> x.row(INTS, 4, 1), FULL);
        refused("FULL ahead of SIZE", x -> x.row(INTS, 4, -1), FULL);
        bad("BAD ahead of FULL", x -> x.row(INTS, 4, 41));
        refused("grid", x -> x.grid(GRID, 9, 1, 1, false), FULL);
        refused("bare grid of none", x -> x.grid(GRID, 9, 0, 1, true), FULL);
        refused("FULL ahead of SIZE", x -> x.grid(GRID, 9, -1, -1, false), FULL);
        bad("BAD ahead of FULL", x -> x.grid(GRID, 9, 11, 1, false));
        refused("storeys", x -> x.storeys(STOREYS, 0), FULL);
        refused("FULL ahead of SIZE", x -> x.storeys(STOREYS, -1), FULL);
        bad("BAD ahead of FULL", x -> x.storeys(STOREYS, 5));
        for (int from = 0; from < 16; from++) {
            int asked = from;
            refused("copy of whatever", x -> x.copy(INTS, asked, false), FULL);
        }
        bad("BAD ahead of FULL", x -> x.copy(INTS, 16, false));
        refused("plant", x -> x.plant(TOMATO, 0, 1, 1, 0, 0), FULL);
        refused("FULL ahead of CAST", x -> x.plant(TOMATO, 2, 1, 1, INTS, INTS), FULL);
        bad("BAD ahead of FULL", x -> x.plant(TOMATO, 6, 1, 1, 0, 0));
        refused("tray", x -> x.tray(TRAY, 12, 1), FULL);
        refused("FULL ahead of SIZE", x -> x.tray(TRAY, 12, -1), FULL);
        bad("BAD ahead of FULL", x -> x.tray(TRAY, 12, 9));
        refused("card", x -> x.card(CARD), FULL);
        bad("BAD ahead of FULL", x -> x.card(16));
        refused("shares", x -> x.shares(INTS, 5, TOMATO), FULL);
        fault(CAST, "CAST ahead of FULL", x -> x.shares(SEVEN_SHORTS, 5, TOMATO));
        fault(NULL, "NULL ahead of FULL", x -> x.shares(EMPTY, 5, TOMATO));
        refused("run", x -> x.run(House.FORMED_PLAN), FULL);
        refused("NO ahead of FULL", x -> x.run(House.OPEN_PLAN), NO);
        bad("BAD ahead of FULL", x -> x.run(4));
        fault(NULL, "others go on", x -> x.put(EMPTY, 4, 0, 1));
        fault(INDEX, "others go on", x -> x.lift(EMPTY, GRID, 2));
        refused("others go on", x -> x.setStock(5, 15), 1);
    }

    private static void refusesDepths() {
        behind(x -> {
            for (int i = 0; i < 3; i++) x.plant(GRAFT, 2, 1, 1, TOMATO, GRAFT);
        });
        refused("a depth of 4", x -> x.plant(TOMATO, 2, 1, 1, GRAFT, EMPTY), FULL);
        refused("a depth of 4", x -> x.plant(TOMATO, 2, 1, 1, EMPTY, GRAFT), FULL);
        fault(CAST, "CAST ahead of the depth", x -> x.plant(TOMATO, 2, 1, 1, GRAFT, INTS));
    }

    private static void refusesToShare() {
        behind(x -> x.put(INTS, 4, 3, -1));
        refused("a cell below 0", x -> x.shares(INTS, 5, TOMATO), NO);
        bad("BAD ahead of NO", x -> x.shares(INTS, -1, TOMATO));
        behind(x -> {
            for (int i = 0; i < 4; i++) x.put(INTS, 4, i, 0);
        });
        refused("all are 0", x -> x.shares(INTS, 5, TOMATO), NO);
        behind(x -> x.row(INTS, 4, 0));
        refused("there is none", x -> x.shares(INTS, 5, TOMATO), NO);
        fault(ZERO, "the mean of none", x -> x.wholeMean(INTS));
    }
}
