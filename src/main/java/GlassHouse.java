/**
 * A nursery under glass, as ../shared/DOC.md promises it: bins with rows, grids, trays, plants and cards; acts of
 * nested steps; tables, probes, air, water, feeds, pests and pages. No call ever throws: what the machine would have
 * against an act is found out ahead and told by a number.
 */
public final class GlassHouse {
    public static final int NONE = -1, BAD = -2, NO = -3, FULL = -4;

    private static final int NULL_FAULT = 1, INDEX_FAULT = 2, SIZE_FAULT = 3, CAST_FAULT = 4, STORE_FAULT = 5;
    private static final int ZERO_FAULT = 6, STATE_FAULT = 7, OWN_FAULT = 8;

    private static final int BINS = 16, LANES = 8, STOCKS = 6, VALVES = 3, HOUSES = 3;
    private static final int TRUTHS = 0, BYTES = 1, LETTERS = 2, SHORTS = 3, INTS = 4, LONGS = 5, FLOATS = 6, DOUBLES = 7;
    private static final int SHORT_GRID = 8, INT_GRID = 9, DOUBLE_GRID = 10, STOREYS = 11;
    private static final int PLANT_TRAY = 12, TOMATO_TRAY = 13, HERB_TRAY = 14, THIRST_TRAY = 15;
    private static final int PLANTS = 16, CARDS = 17;
    private static final int HERB = 0, TOMATO = 1, GRAFT = 2, CRESS = 3, PROBE = 4, VALVE = 5;
    private static final int NEXT = 0, LEAF = 1;

    private static final int CELLS_MOST = 40, BAYS_MOST = 10, STOREYS_MOST = 4, TRAY_MOST = 8, DEPTH_MOST = 4;
    private static final int THINGS_MOST = 4000, FAULTS_MOST = 3000;
    private static final int BAD_CLIMATE = -100000, NO_WISH = -100001;

    private final Acts acts;
    private final Thing[] bins;
    private final Plans plans;
    private final Asks asks;
    private final Air houses;
    private final Tables tables;
    private final Probes probes;
    private final Feed feed;
    private final Pests pests;
    private final Pages pages;
    private final long[] sorted;
    private int things;
    private int faults;
    private int lastFault;
    private int lastCame;
    private int lastAnswer;
    private int plantsMade;
    private int cardsMade;
    private int walks;

    public GlassHouse() {
        acts = new Acts();
        bins = acts.bins;
        plans = acts.plans;
        asks = acts.asks;
        houses = new Air();
        tables = houses.tables;
        probes = houses.probes;
        feed = new Feed();
        pests = new Pests();
        pages = new Pages();
        sorted = new long[CELLS_MOST];
    }

    // ---- 1 rows, beds, bins

    public int row(int bin, int lane, int n) {
        if (!isBin(bin) || !isLane(lane) || n > CELLS_MOST) return BAD;
        if (isUsedUp()) return FULL;
        if (n < 0) return fail(SIZE_FAULT);
        bins[bin] = newThing(lane, n, 0);
        return 1;
    }

    public int grid(int bin, int form, int a, int n, boolean bare) {
        if (!isBin(bin) || !isGridForm(form) || a > BAYS_MOST || n > CELLS_MOST) return BAD;
        if (isUsedUp()) return FULL;
        if (a < 0 || !bare && n < 0) return fail(SIZE_FAULT);
        Thing grid = newThing(form, 0, a);
        for (int i = 0; !bare && i < a; i++) {
            grid.places[i] = newThing(laneOfGrid(form), n, 0);
        }
        bins[bin] = grid;
        return 1;
    }

    public int storeys(int bin, int n) {
        if (!isBin(bin) || n > STOREYS_MOST) return BAD;
        if (isUsedUp()) return FULL;
        if (n < 0) return fail(SIZE_FAULT);
        bins[bin] = newThing(STOREYS, 0, n);
        return 1;
    }

    public int share(int bin, int from) {
        if (!isBin(bin) || from != NONE && !isBin(from)) return BAD;
        bins[bin] = from == NONE ? null : bins[from];
        return 1;
    }

    public int form(int bin) {
        if (!isBin(bin)) return BAD;
        return bins[bin] == null ? NONE : bins[bin].form;
    }

    public int is(int bin, int form) {
        if (!isBin(bin) || !isForm(form)) return BAD;
        Thing thing = bins[bin];
        if (thing == null) return 0;
        if (thing.form == form) return 1;
        return thing.form == PLANTS && isForTray(thing.kind, form) ? 1 : 0;
    }

    public long get(int bin, int lane, int i) {
        if (!isBin(bin) || !isLane(lane)) return 0;
        int bar = cellFault(bins[bin], lane, i);
        if (bar != 0) return failBits(bar);
        return bins[bin].cells[i];
    }

    public int put(int bin, int lane, int i, long bits) {
        if (!isBin(bin) || !isLane(lane)) return BAD;
        int bar = cellFault(bins[bin], lane, i);
        if (bar != 0) return fail(bar);
        bins[bin].cells[i] = Reals.cutTo(lane, bits);
        return 1;
    }

    public long bed(int bin, int form, int i, int j) {
        if (!isBin(bin) || !isGridForm(form)) return 0;
        int bar = bedFault(bins[bin], form, i, j);
        if (bar != 0) return failBits(bar);
        return bins[bin].places[i].cells[j];
    }

    public int setBed(int bin, int form, int i, int j, long bits) {
        if (!isBin(bin) || !isGridForm(form)) return BAD;
        int bar = bedFault(bins[bin], form, i, j);
        if (bar != 0) return fail(bar);
        bins[bin].places[i].cells[j] = Reals.cutTo(laneOfGrid(form), bits);
        return 1;
    }

    public int countUp(int bin, int s, int i, int j, boolean after) {
        if (!isBin(bin)) return 0;
        int bar = placeFault(bins[bin], STOREYS, s);
        if (bar == 0) bar = bedFault(bins[bin].places[s], INT_GRID, i, j);
        if (bar != 0) {
            fail(bar);
            return 0;
        }
        long[] cells = bins[bin].places[s].places[i].cells;
        int was = (int) cells[j];
        cells[j] = was + 1;
        return after ? was + 1 : was;
    }

    public int set(int bin, int i, int from) {
        if (!isBin(bin) || !isBin(from)) return BAD;
        int bar = anyPlaceFault(bins[bin], i);
        if (bar == 0 && !isFor(bins[from], bins[bin].form)) bar = STORE_FAULT;
        if (bar != 0) return fail(bar);
        bins[bin].places[i] = bins[from];
        return 1;
    }

    public int lift(int bin, int from, int i) {
        if (!isBin(bin) || !isBin(from)) return BAD;
        int bar = anyPlaceFault(bins[from], i);
        if (bar != 0) return fail(bar);
        bins[bin] = bins[from].places[i];
        return 1;
    }

    public int liftAs(int bin, int from, int i, int form) {
        if (!isBin(bin) || !isBin(from) || !isForm(form)) return BAD;
        int bar = anyPlaceFault(bins[from], i);
        if (bar == 0 && !goesFor(bins[from].places[i], form)) bar = CAST_FAULT;
        if (bar != 0) return fail(bar);
        bins[bin] = bins[from].places[i];
        return 1;
    }

    public int shift(int bin, int i, int other, int j, int n) {
        if (!isBin(bin) || !isBin(other)) return BAD;
        lastCame = 0;
        Thing from = bins[bin];
        Thing to = bins[other];
        int bar = shiftFault(from, to);
        if (bar == 0 && (isBeyond(from, i, n) || isBeyond(to, j, n))) bar = INDEX_FAULT;
        if (bar != 0) return fail(bar);
        lastCame = isLane(from.form) ? shiftCells(from, i, to, j, n) : shiftPlaces(from, i, to, j, n);
        return lastCame == n ? n : fail(STORE_FAULT);
    }

    public int came() {
        return lastCame;
    }

    public int copy(int bin, int from, boolean deep) {
        if (!isBin(bin) || !isBin(from)) return BAD;
        if (isUsedUp()) return FULL;
        bins[bin] = twinOf(bins[from], deep, 0);
        return 1;
    }

    public int alike(int bin, int other) {
        if (!isBin(bin) || !isBin(other)) return BAD;
        if (bins[bin] == bins[other]) return 2;
        return areTwins(bins[bin], bins[other], 0) ? 1 : 0;
    }

    public int size(int bin, int what) {
        if (!isBin(bin) || what < 0 || what > 1) return BAD;
        Thing thing = bins[bin];
        if (thing == null) return fail(NULL_FAULT);
        if (!isLane(thing.form) && !isPlacesForm(thing.form)) return fail(CAST_FAULT);
        if (what == 0) return lengthOf(thing);
        int empty = 0;
        for (int i = 0; i < thing.places.length; i++) {
            if (thing.places[i] == null) empty++;
        }
        return empty;
    }

    // ---- 2 plants, cards

    public int plant(int bin, int kind, int a, int b, int p, int q) {
        if (!isBin(bin) || kind < HERB || kind > VALVE) return BAD;
        boolean graft = kind == GRAFT;
        if (graft && (!isBin(p) || !isBin(q))) return BAD;
        if (isUsedUp()) return FULL;
        Thing one = graft ? bins[p] : null;
        Thing two = graft ? bins[q] : null;
        if (!goesFor(one, PLANTS) || !goesFor(two, PLANTS)) return fail(CAST_FAULT);
        int depth = graft ? 1 + Math.max(depthOf(one), depthOf(two)) : 0;
        if (depth > DEPTH_MOST) return FULL;
        Thing plant = newThing(PLANTS, 0, 2);
        plant.kind = kind;
        plant.a = a;
        plant.b = b;
        plant.places[0] = one;
        plant.places[1] = two;
        plant.depth = depth;
        plant.number = plantsMade;
        plantsMade++;
        bins[bin] = plant;
        return plant.number;
    }

    public int tray(int bin, int form, int n) {
        if (!isBin(bin) || !isTrayForm(form) || n > TRAY_MOST) return BAD;
        if (isUsedUp()) return FULL;
        if (n < 0) return fail(SIZE_FAULT);
        bins[bin] = newThing(form, 0, n);
        return 1;
    }

    public int ask(int bin, int what) {
        if (!isBin(bin) || what < Asks.SIZE || what > Asks.DEPTH) return BAD;
        int told = asks.tell(bins[bin], what);
        if (asks.bar != 0) return fail(asks.bar);
        lastAnswer = told;
        return 1;
    }

    public int answer() {
        return lastAnswer;
    }

    public int trace(int i) {
        return asks.bodyAt(i);
    }

    public int card(int bin) {
        if (!isBin(bin)) return BAD;
        if (isUsedUp()) return FULL;
        bins[bin] = newThing(CARDS, LANES, 2);
        return bins[bin].number;
    }

    public long field(int bin, int lane) {
        if (!isBin(bin) || !isLane(lane)) return 0;
        int bar = takenFault(bins[bin], CARDS);
        if (bar != 0) return failBits(bar);
        return bins[bin].cells[lane];
    }

    public int setField(int bin, int lane, long bits) {
        if (!isBin(bin) || !isLane(lane)) return BAD;
        int bar = takenFault(bins[bin], CARDS);
        if (bar != 0) return fail(bar);
        bins[bin].cells[lane] = Reals.cutTo(lane, bits);
        return 1;
    }

    public int lead(int bin, int what, int from) {
        if (!isBin(bin) || !isBin(from) || what < NEXT || what > LEAF) return BAD;
        if (!goesFor(bins[bin], CARDS) || !goesFor(bins[from], what == NEXT ? CARDS : PLANTS)) return fail(CAST_FAULT);
        if (bins[bin] == null) return fail(NULL_FAULT);
        bins[bin].places[what] = bins[from];
        return 1;
    }

    public int follow(int bin, int from, int what) {
        if (!isBin(bin) || !isBin(from) || what < NEXT || what > LEAF) return BAD;
        int bar = takenFault(bins[from], CARDS);
        if (bar != 0) return fail(bar);
        bins[bin] = bins[from].places[what];
        return 1;
    }

    public int led(int bin, int what) {
        if (!isBin(bin) || what < 0 || what > 2) return BAD;
        int bar = takenFault(bins[bin], CARDS);
        if (bar != 0) return fail(bar);
        walks++;
        Thing last = bins[bin];
        Thing card = last;
        int many = 0;
        while (many < cardsMade && card != null && card.walk != walks) {
            card.walk = walks;
            last = card;
            card = card.places[NEXT];
            many++;
        }
        if (what == 0) return many;
        if (what == 2) return last.number;
        return card == null ? NONE : card.number;
    }

    // ---- 3 acts

    public int step(int plan, int op, int a, int b, int c) {
        if (!isPlan(plan) || op < Plans.END || op > Plans.LOOP) return BAD;
        return plans.append(plan, op, a, b, c);
    }

    public int drop(int plan) {
        if (!isPlan(plan)) return BAD;
        int had = plans.counts[plan];
        plans.counts[plan] = 0;
        return had;
    }

    public int formed(int plan) {
        if (!isPlan(plan)) return 0;
        return plans.firstWrong(plan);
    }

    public int run(int plan) {
        if (!isPlan(plan)) return BAD;
        if (plans.firstWrong(plan) != NONE) return NO;
        if (isUsedUp()) return FULL;
        int end = acts.carryOut(plan);
        faults += acts.ran[Acts.AROSE];
        if (acts.wentOut != 0) lastFault = acts.wentOut;
        return end;
    }

    public int ran(int what) {
        if (what < 0 || what >= acts.ran.length) return BAD;
        return acts.ran[what];
    }

    public long stock(int k) {
        return isStock(k) ? acts.stock[k] : 0;
    }

    public int setStock(int k, long v) {
        if (!isStock(k)) return BAD;
        acts.stock[k] = v;
        return 1;
    }

    public int valve(int v, int what) {
        if (!isValve(v) || what < 0 || what > 1) return 0;
        return what == 0 ? acts.valvePlace[v] : acts.valveHeld[v];
    }

    // ---- 4 tables

    public int line(int table, int x, int y) {
        if (!isTable(table)) return BAD;
        return tables.append(table, x, y);
    }

    public int rest(int table, int on) {
        if (!isTable(table) || on != NONE && !isTable(on)) return BAD;
        if (tables.states[table] == Tables.IS_LAID) return NO;
        tables.rests[table] = on;
        return 1;
    }

    public int value(int table, int x) {
        return isTable(table) ? tables.valueAt(table, x) : 0;
    }

    public int laid(int k) {
        return k < 0 || k >= tables.laidMany ? NONE : tables.order[k];
    }

    // ---- 5, 6 probes, air

    public int read(int probe, long bits) {
        if (!isProbe(probe)) return BAD;
        probes.note(probe, bits);
        return 1;
    }

    public int part(long bits) {
        if (!Reals.isNumber(bits)) return BAD;
        double wanted = Reals.toDouble(bits);
        if (wanted < 0.0) return BAD;
        probes.part = wanted;
        return 1;
    }

    public int probe(int probe, int what) {
        if (!isProbe(probe)) return BAD;
        return probes.tell(probe, what);
    }

    public long voted(int house) {
        return isHouse(house) ? probes.values[house] : 0;
    }

    public int weather(int what, int v) {
        if (what < 0 || what >= Air.LEAST.length || v < Air.LEAST[what] || v > Air.MOST[what]) return BAD_CLIMATE;
        int was = houses.outside[what];
        houses.outside[what] = v;
        return was;
    }

    public int mark(int house, int minute, int wish) {
        if (!isHouse(house)) return BAD;
        return houses.addMark(house, minute, wish);
    }

    public int unmark(int house) {
        if (!isHouse(house)) return BAD;
        int had = houses.markMany[house];
        houses.markMany[house] = 0;
        return had;
    }

    public int wish(int house, int minute) {
        if (!isHouse(house) || minute < 0 || minute >= Air.DAY) return BAD_CLIMATE;
        return houses.markMany[house] == 0 ? NO_WISH : houses.wishAt(house, minute);
    }

    public int minute(int n) {
        if (n < 1 || n > 100) return BAD;
        if (houses.minutes + n > Air.MINUTES_MOST) return FULL;
        for (int i = 0; i < n; i++) {
            houses.pass();
        }
        return houses.minutes;
    }

    public long air(int house, int what) {
        if (!isHouse(house) || what < 0 || what >= Air.TOLD) return 0;
        return houses.states[house][what];
    }

    // ---- 7 water, feeds

    public int shares(int bin, int n, int to) {
        if (!isBin(bin) || !isBin(to) || n < 0 || n > Pests.MOST) return BAD;
        int bar = takenFault(bins[bin], INTS);
        if (bar != 0) return fail(bar);
        long[] by = bins[bin].cells;
        if (Pests.sumToShareBy(by) == 0) return NO;
        if (isUsedUp()) return FULL;
        Thing row = newThing(LONGS, by.length, 0);
        Pests.deal(n, by, row.cells);
        bins[to] = row;
        return 1;
    }

    public long quotient(int lane, long a, long b, int what) {
        if (lane != INTS && lane != LONGS || what < 0 || what > 1) return 0;
        long over = Reals.cutTo(lane, a);
        long by = Reals.cutTo(lane, b);
        if (by == 0) return failBits(ZERO_FAULT);
        return Reals.cutTo(lane, what == 0 ? over / by : over % by);
    }

    public int compare(int lane, int bin, int i, int other, int j) {
        if (lane != FLOATS && lane != DOUBLES || !isBin(bin) || !isBin(other)) return BAD;
        if (!goesFor(bins[bin], lane) || !goesFor(bins[other], lane)) return fail(CAST_FAULT);
        int bar = cellFault(bins[bin], lane, i);
        if (bar == 0) bar = cellFault(bins[other], lane, j);
        if (bar != 0) return fail(bar);
        return Reals.howTheyStand(Reals.widen(lane, bins[bin].cells[i]), Reals.widen(lane, bins[other].cells[j]));
    }

    public long real(int lane, int bin, int what) {
        if (lane != FLOATS && lane != DOUBLES || !isBin(bin) || what < 0 || what > 3) return 0;
        int bar = takenFault(bins[bin], lane);
        if (bar != 0) return failBits(bar);
        if (what == 2) return Reals.mean(lane, bins[bin].cells);
        int many = Reals.sortNumbers(lane, bins[bin].cells, sorted);
        if (many == 0) return Reals.NO_NUMBER;
        if (what == 0) return sorted[0];
        return what == 1 ? sorted[many - 1] : sorted[(many - 1) / 2];
    }

    public int wholeMean(int bin) {
        if (!isBin(bin)) return BAD;
        int bar = takenFault(bins[bin], INTS);
        if (bar == 0 && bins[bin].cells.length == 0) bar = ZERO_FAULT;
        if (bar != 0) return fail(bar);
        long[] cells = bins[bin].cells;
        long sum = 0;
        for (int i = 0; i < cells.length; i++) {
            sum += cells[i];
        }
        lastAnswer = (int) (sum / cells.length);
        return 1;
    }

    public int salt(int salt, int j, int v) {
        if (salt < 0 || salt > Feed.WATER || j < 0 || j >= Feed.ROWS || v < 0) return BAD;
        if (v > (salt < Feed.SALTS ? 99 : 999)) return BAD;
        int was = feed.contents[salt][j];
        feed.contents[salt][j] = v;
        return was;
    }

    public int work() {
        return feed.solve();
    }

    public long worked(int what, int k) {
        return feed.tell(what, k);
    }

    // ---- 8 pests

    public int count(int pest, int stage, int n) {
        if (!isPest(pest) || !isStage(stage) || n < 0 || n > Pests.MOST) return BAD;
        pests.numbers[pest][stage] = n;
        return 1;
    }

    public int parts(int pest, int stage, int on, int stays, int young) {
        if (!isPest(pest) || !isStage(stage)) return BAD;
        if (!isPart(on) || !isPart(stays) || !isPart(young)) return BAD;
        pests.goOn[pest][stage] = on;
        pests.stay[pest][stage] = stays;
        pests.young[pest][stage] = young;
        return 1;
    }

    public int day(int n) {
        if (n < 1 || n > 50) return BAD;
        if (pests.days + n > Pests.DAYS_MOST) return FULL;
        for (int i = 0; i < n; i++) {
            pests.pass();
        }
        return pests.days;
    }

    public int spray(int pest) {
        if (!isPest(pest)) return BAD;
        for (int stage = 0; stage < Pests.STAGES; stage++) {
            pests.numbers[pest][stage] /= 4;
        }
        pests.waits = Pests.WAIT;
        return 1;
    }

    public int pest(int pest, int stage) {
        if (!isPest(pest) || !isStage(stage)) return BAD;
        return (int) pests.numbers[pest][stage];
    }

    public int wait1() {
        return pests.waits;
    }

    // ---- 9 pages

    public int write(int bin) {
        if (!isBin(bin)) return BAD;
        Thing row = bins[bin];
        if (row == null) return fail(NULL_FAULT);
        if (!Pages.takesLane(row.form)) return fail(CAST_FAULT);
        if (pages.dark) return NO;
        if (row.cells.length > Pages.CELLS || !pages.hasRoom()) return FULL;
        return pages.putDown(row);
    }

    public int power(int n) {
        if (n != NONE && (n < 0 || n > 200)) return BAD;
        if (pages.dark) return NO;
        pages.left = n;
        return 1;
    }

    public int open1() {
        return pages.openUp();
    }

    public long page(int k, int what) {
        return pages.tell(k, what);
    }

    public int octet(int page, int i) {
        if (!Pages.isByte(page, i)) return BAD;
        return pages.byteAt(page, i);
    }

    public int damage(int page, int i, int mask) {
        if (!Pages.isByte(page, i) || mask < 0 || mask > 255) return BAD;
        return pages.turn(page, i, mask);
    }

    public int told(int what) {
        switch (what) {
            case 0: return houses.minutes;
            case 1: return things;
            case 2: return faults;
            case 3: return pages.latest;
            case 4: return pages.next;
            case 5: return pages.dark ? 1 : 0;
            case 6: return pages.clashes();
            case 7: return pests.days;
            case 8: return pages.gather();
            case 9: return plans.stepsInAll();
            case 10: return tables.laidMany;
            default: return BAD;
        }
    }

    public int fault() {
        return lastFault;
    }

    // ---- what several calls need

    private int fail(int kind) {
        faults++;
        lastFault = kind;
        return -10 - kind;
    }

    private long failBits(int kind) {
        fail(kind);
        return 0;
    }

    private boolean isUsedUp() {
        return things >= THINGS_MOST || faults >= FAULTS_MOST;
    }

    private Thing newThing(int form, int cells, int places) {
        Thing made = new Thing(form, cells, places);
        things++;
        if (form == CARDS) {
            made.number = cardsMade;
            cardsMade++;
        }
        return made;
    }

    private Thing twinOf(Thing from, boolean deep, int level) {
        // STOREYS, GRIDS and ROWS are three levels, so nothing is ever held deeper.
        if (from == null || from.form == PLANTS || level > 3) return from;
        Thing made = newThing(from.form, from.cells.length, from.places.length);
        System.arraycopy(from.cells, 0, made.cells, 0, from.cells.length);
        boolean within = deep && isPlacesForm(from.form);
        for (int i = 0; i < from.places.length; i++) {
            made.places[i] = within ? twinOf(from.places[i], true, level + 1) : from.places[i];
        }
        return made;
    }

    private static boolean areTwins(Thing one, Thing two, int level) {
        if (one == two) return true;
        if (one == null || two == null || one.form != two.form || one.form == PLANTS || level > 3) return false;
        if (one.cells.length != two.cells.length || one.places.length != two.places.length) return false;
        for (int i = 0; i < one.cells.length; i++) {
            if (one.cells[i] != two.cells[i]) return false;
        }
        // CARDS may lead in a ring, so what they lead to is never looked into.
        boolean within = isPlacesForm(one.form);
        for (int i = 0; i < one.places.length; i++) {
            Thing mine = one.places[i];
            Thing theirs = two.places[i];
            if (within ? !areTwins(mine, theirs, level + 1) : mine != theirs) return false;
        }
        return true;
    }

    private static int shiftFault(Thing from, Thing to) {
        if (from == null || to == null) return NULL_FAULT;
        if (isLane(from.form) || isLane(to.form)) return from.form == to.form ? 0 : STORE_FAULT;
        return isPlacesForm(from.form) && isPlacesForm(to.form) ? 0 : STORE_FAULT;
    }

    private static boolean isBeyond(Thing thing, int i, int n) {
        return i < 0 || n < 0 || (long) i + n > lengthOf(thing);
    }

    private static int shiftCells(Thing from, int i, Thing to, int j, int n) {
        System.arraycopy(from.cells, i, to.cells, j, n);
        return n;
    }

    private static int shiftPlaces(Thing from, int i, Thing to, int j, int n) {
        // Upwards within one thing the last must go first, or it would be overwritten ahead of its turn.
        boolean backwards = from == to && i < j;
        for (int k = 0; k < n; k++) {
            int at = backwards ? n - 1 - k : k;
            Thing what = from.places[i + at];
            if (!isFor(what, to.form)) return k;
            to.places[j + at] = what;
        }
        return n;
    }

    private static int lengthOf(Thing thing) {
        return isLane(thing.form) ? thing.cells.length : thing.places.length;
    }

    private static int depthOf(Thing plant) {
        return plant == null ? 0 : plant.depth;
    }

    private static boolean goesFor(Thing thing, int form) {
        return thing == null || thing.form == form;
    }

    private static int takenFault(Thing thing, int form) {
        if (thing == null) return NULL_FAULT;
        return thing.form == form ? 0 : CAST_FAULT;
    }

    private static int cellFault(Thing thing, int lane, int i) {
        int bar = takenFault(thing, lane);
        if (bar != 0) return bar;
        return i < 0 || i >= thing.cells.length ? INDEX_FAULT : 0;
    }

    private static int placeFault(Thing thing, int form, int i) {
        int bar = takenFault(thing, form);
        if (bar != 0) return bar;
        return i < 0 || i >= thing.places.length ? INDEX_FAULT : 0;
    }

    private static int anyPlaceFault(Thing thing, int i) {
        if (thing == null) return NULL_FAULT;
        return isPlacesForm(thing.form) ? placeFault(thing, thing.form, i) : CAST_FAULT;
    }

    private static int bedFault(Thing grid, int form, int i, int j) {
        int bar = placeFault(grid, form, i);
        if (bar != 0) return bar;
        return cellFault(grid.places[i], laneOfGrid(form), j);
    }

    private static boolean isFor(Thing thing, int placesForm) {
        if (thing == null) return true;
        if (isGridForm(placesForm)) return thing.form == laneOfGrid(placesForm);
        if (placesForm == STOREYS) return thing.form == INT_GRID;
        return thing.form == PLANTS && isForTray(thing.kind, placesForm);
    }

    private static boolean isForTray(int kind, int trayForm) {
        switch (trayForm) {
            case PLANT_TRAY: return kind != PROBE && kind != VALVE;
            case TOMATO_TRAY: return kind == TOMATO || kind == GRAFT;
            case HERB_TRAY: return kind == HERB || kind == CRESS;
            case THIRST_TRAY: return kind == TOMATO || kind == GRAFT || kind == CRESS || kind == VALVE;
            default: return false;
        }
    }

    private static int laneOfGrid(int form) {
        if (form == SHORT_GRID) return SHORTS;
        return form == INT_GRID ? INTS : DOUBLES;
    }

    private static boolean isBin(int bin) {
        return bin >= 0 && bin < BINS;
    }

    private static boolean isLane(int lane) {
        return lane >= TRUTHS && lane < LANES;
    }

    private static boolean isForm(int form) {
        return form >= TRUTHS && form <= CARDS;
    }

    private static boolean isGridForm(int form) {
        return form >= SHORT_GRID && form <= DOUBLE_GRID;
    }

    private static boolean isTrayForm(int form) {
        return form >= PLANT_TRAY && form <= THIRST_TRAY;
    }

    private static boolean isPlacesForm(int form) {
        return form >= SHORT_GRID && form <= THIRST_TRAY;
    }

    private static boolean isPlan(int plan) {
        return plan >= 0 && plan < Plans.MANY;
    }

    private static boolean isStock(int k) {
        return k >= 0 && k < STOCKS;
    }

    private static boolean isValve(int v) {
        return v >= 0 && v < VALVES;
    }

    private static boolean isTable(int table) {
        return table >= 0 && table < Tables.MANY;
    }

    private static boolean isHouse(int house) {
        return house >= 0 && house < HOUSES;
    }

    private static boolean isProbe(int probe) {
        return probe >= 0 && probe < Probes.MANY;
    }

    private static boolean isPest(int pest) {
        return pest >= 0 && pest < Pests.MANY;
    }

    private static boolean isStage(int stage) {
        return stage >= 0 && stage < Pests.STAGES;
    }

    private static boolean isPart(int part) {
        return part >= 0 && part <= 1000;
    }

    private static long within(long x, long least, long most) {
        return Math.max(least, Math.min(most, x));
    }

    /**
     * All that a bin can hold. One class, so that copying and comparing need no case for each: a ROW has cells, PLACES
     * have places, a PLANT has its PARTS and a CARD its leads (NEXT, LEAF) as places and its FIELDS as cells.
     */
    private static final class Thing {
        final int form;
        final long[] cells;
        final Thing[] places;
        int kind;
        int number;
        int a;
        int b;
        int depth;
        /** The latest walk along the cards that came by here. */
        int walk;

        Thing(int form, int cells, int places) {
            this.form = form;
            this.cells = new long[Math.max(cells, 0)];
            this.places = new Thing[Math.max(places, 0)];
        }
    }

    /**
     * Bits of cells and reals. The library's own functions between bits and doubles are not to be used, so doubles are
     * built and taken apart by powers of two, which is exact.
     */
    private static final class Reals {
        static final long NO_NUMBER = 0x7FF8000000000000L;
        static final long ENDLESS = 0x7FF0000000000000L;
        static final long MINUS_ENDLESS = 0xFFF0000000000000L;
        static final long SIGN = 0x8000000000000000L;
        static final long FRACTION = 0x000FFFFFFFFFFFFFL;
        static final long LEADING_ONE = 0x0010000000000000L;
        static final int NO_FLOAT = 0x7FC00000, ENDLESS_FLOAT = 0x7F800000, FLOAT_FRACTION = 0x007FFFFF;
        static final int LESS = 1, LESS_OR_LIKE = 2, GREATER = 4, GREATER_OR_LIKE = 8, LIKE = 16, UNLIKE = 32;

        static long cutTo(int lane, long bits) {
            switch (lane) {
                case TRUTHS: return bits & 1;
                case BYTES: return (byte) bits;
                case LETTERS: return (char) bits;
                case SHORTS: return (short) bits;
                case INTS: return (int) bits;
                case FLOATS: return (bits & 0x7FFFFFFF) > ENDLESS_FLOAT ? NO_FLOAT : (int) bits;
                case DOUBLES: return isNumber(bits) ? bits : NO_NUMBER;
                default: return bits;
            }
        }

        static boolean isNumber(long bits) {
            return (bits & ~SIGN) <= ENDLESS;
        }

        /** Bits of a cell of floats or doubles as those of a double. */
        static long widen(int lane, long bits) {
            if (lane != FLOATS) return bits;
            long sign = bits < 0 ? SIGN : 0;
            int size = (int) bits & 0x7FFFFFFF;
            if (size > ENDLESS_FLOAT) return NO_NUMBER;
            if (size == ENDLESS_FLOAT) return sign | ENDLESS;
            if (size == 0) return sign;
            long exponent = Math.max(size >>> 23, 1);
            long fraction = size & FLOAT_FRACTION;
            if (size > FLOAT_FRACTION) fraction += FLOAT_FRACTION + 1;
            for (int i = 0; i < 23 && fraction <= FLOAT_FRACTION; i++) {
                fraction <<= 1;
                exponent--;
            }
            return sign | (exponent + 1023 - 127) << 52 | (fraction & FLOAT_FRACTION) << 29;
        }

        /** Swaps bits of a double and a number that rises as the reals do, -0.0 below 0.0. */
        static long orderOf(long bits) {
            return bits < 0 ? bits ^ ~SIGN : bits;
        }

        static int howTheyStand(long one, long two) {
            if (!isNumber(one) || !isNumber(two)) return UNLIKE;
            boolean zeros = (one & ~SIGN) == 0 && (two & ~SIGN) == 0;
            if (zeros || one == two) return LESS_OR_LIKE + GREATER_OR_LIKE + LIKE;
            if (orderOf(one) < orderOf(two)) return LESS + LESS_OR_LIKE + UNLIKE;
            return GREATER + GREATER_OR_LIKE + UNLIKE;
        }

        /** The double of bits that are a number; of -0.0 it is 0.0, which adds up, and compares, to the same. */
        static double toDouble(long bits) {
            int exponent = (int) (bits >>> 52) & 0x7FF;
            long fraction = bits & FRACTION;
            if (exponent == 0) exponent = 1;
            else fraction |= LEADING_ONE;
            double size = scale((double) fraction, exponent - 1075);
            return bits < 0 ? 0.0 - size : size;
        }

        private static double scale(double x, int twos) {
            double scaled = x;
            int left = Math.abs(twos);
            for (int i = 0; i < 40 && left >= 30; i++) {
                scaled = twos < 0 ? scaled / 1073741824.0 : scaled * 1073741824.0;
                left -= 30;
            }
            for (int i = 0; i < 30 && left > 0; i++) {
                scaled = twos < 0 ? scaled / 2.0 : scaled * 2.0;
                left--;
            }
            return scaled;
        }

        /** The bits of a double that is not below 0. */
        static long bitsOf(double x) {
            if (x == 0.0) return 0;
            if (x > 1.7976931348623157E308) return ENDLESS;
            double size = x;
            int exponent = 1075;
            for (int i = 0; i < 40 && size >= 9671406556917033397649408.0; i++) {
                size = size / 1073741824.0;
                exponent += 30;
            }
            for (int i = 0; i < 40 && size < 4194304.0; i++) {
                size = size * 1073741824.0;
                exponent -= 30;
            }
            for (int i = 0; i < 40 && size >= 9007199254740992.0; i++) {
                size = size / 2.0;
                exponent++;
            }
            for (int i = 0; i < 40 && size < 4503599627370496.0; i++) {
                size = size * 2.0;
                exponent--;
            }
            long fraction = (long) size;
            if (exponent >= 1) return (long) exponent << 52 | fraction & FRACTION;
            return fraction >> Math.min(1 - exponent, 63);
        }

        /** The cells that are numbers, as bits of doubles from the least on: how many. */
        static int sortNumbers(int lane, long[] cells, long[] sorted) {
            int many = 0;
            for (int i = 0; i < cells.length && many < sorted.length; i++) {
                long bits = widen(lane, cells[i]);
                if (isNumber(bits)) {
                    int at = many;
                    while (at > 0 && orderOf(sorted[at - 1]) > orderOf(bits)) {
                        sorted[at] = sorted[at - 1];
                        at--;
                    }
                    sorted[at] = bits;
                    many++;
                }
            }
            return many;
        }

        static long mean(int lane, long[] cells) {
            double sum = 0.0;
            int many = 0;
            for (int i = 0; i < cells.length; i++) {
                long bits = widen(lane, cells[i]);
                if (isNumber(bits)) {
                    // From here on the machine's sum would be no number, whatever comes.
                    if (bits == MINUS_ENDLESS && isEndless(sum) || bits == ENDLESS && isEndless(0.0 - sum)) return NO_NUMBER;
                    sum = sum + toDouble(bits);
                    many++;
                }
            }
            if (many == 0) return NO_NUMBER;
            return sum < 0.0 ? SIGN | bitsOf((0.0 - sum) / many) : bitsOf(sum / many);
        }

        private static boolean isEndless(double x) {
            return x > 1.7976931348623157E308;
        }
    }

    /** What plants tell when asked, by bodies that go by the document's numbers, and the trace that these leave. */
    private static final class Asks {
        static final int SIZE = 0, THIRST = 1, COST = 2, MARK = 3, FIRST = 4, NUMBER = 5, KIND = 6, DEPTH = 7;
        private static final int PLAIN_SIZE = 1, TOMATO_SIZE = 2, GRAFT_SIZE = 3, CRESS_SIZE = 4;
        private static final int LENT_THIRST = 10, TOMATO_THIRST = 11, VALVE_THIRST = 12;
        private static final int LENT_COST = 20, CRESS_COST = 21, PLAIN_MARK = 30, GRAFT_MARK = 31;
        /** Stands for the body that a plant's own kind has for its SIZE. */
        private static final int OWN_SIZE = 0;
        /** A GRAFT of the greatest DEPTH begins 79 bodies, and 8 in one another. */
        private static final int BODIES_MOST = 128, LEVELS_MOST = 20;

        /** The fault of the latest ask; 0 without. */
        int bar;
        private int begun;
        private final int[] bodies;

        Asks() {
            bodies = new int[BODIES_MOST];
        }

        int tell(Thing plant, int what) {
            begun = 0;
            bar = takenFault(plant, PLANTS);
            if (bar != 0) return 0;
            if (what == THIRST && !isForTray(plant.kind, THIRST_TRAY) || what == COST && plant.kind == VALVE) {
                bar = CAST_FAULT;
                return 0;
            }
            switch (what) {
                case SIZE: return body(OWN_SIZE, plant, 0);
                case THIRST: return body(thirstBody(plant.kind), plant, 0);
                case COST: return body(plant.kind == CRESS ? CRESS_COST : LENT_COST, plant, 0);
                case MARK: return body(plant.kind == GRAFT ? GRAFT_MARK : PLAIN_MARK, plant, 0);
                case FIRST: return plant.kind == GRAFT ? 9 : 7;
                case NUMBER: return plant.number;
                case KIND: return plant.kind;
                default: return plant.depth;
            }
        }

        int bodyAt(int i) {
            return i < 0 || i >= begun ? NONE : bodies[i];
        }

        private static int sizeBody(int kind) {
            switch (kind) {
                case TOMATO: return TOMATO_SIZE;
                case GRAFT: return GRAFT_SIZE;
                case CRESS: return CRESS_SIZE;
                default: return PLAIN_SIZE;
            }
        }

        private static int thirstBody(int kind) {
            if (kind == VALVE) return VALVE_THIRST;
            return kind == CRESS ? LENT_THIRST : TOMATO_THIRST;
        }

        /** What a body gives; behind a fault no body begins any more. */
        private int body(int number, Thing plant, int level) {
            if (bar == 0 && (plant == null || level > LEVELS_MOST)) bar = NULL_FAULT;
            if (bar != 0) return 0;
            int begins = number == OWN_SIZE ? sizeBody(plant.kind) : number;
            if (begun < BODIES_MOST) {
                bodies[begun] = begins;
                begun++;
            }
            int deeper = level + 1;
            switch (begins) {
                case PLAIN_SIZE: return plant.a;
                case TOMATO_SIZE: return 2 * body(PLAIN_SIZE, plant, deeper) + plant.b;
                case GRAFT_SIZE:
                    return body(OWN_SIZE, plant.places[0], deeper) + body(OWN_SIZE, plant.places[1], deeper)
                        + body(TOMATO_SIZE, plant, deeper);
                case CRESS_SIZE: return divided(body(PLAIN_SIZE, plant, deeper), plant.b);
                case LENT_THIRST: return 3 + body(OWN_SIZE, plant, deeper);
                case TOMATO_THIRST: return 2 * body(LENT_THIRST, plant, deeper);
                case VALVE_THIRST: return plant.b;
                case LENT_COST: return divided(5000, plant.a);
                case CRESS_COST:
                    return body(LENT_COST, plant, deeper) + body(thirstBody(plant.kind), plant, deeper);
                case GRAFT_MARK: return 9 + plant.b;
                default: return 7;
            }
        }

        private int divided(int whole, int by) {
            if (by == 0) {
                bar = ZERO_FAULT;
                return 0;
            }
            return whole / by;
        }
    }

    /** The steps of the plans, and how their bodies lie in one another. */
    private static final class Plans {
        static final int END = 0, ADD = 1, OVER = 2, LAY = 3, READ = 4, WRITE = 5, ASK = 6, FAIL = 7, ANSWER = 8;
        static final int WAKE = 9, DO = 10, HOLD = 11, TAKE = 12, OPEN = 13, KEEP = 14, AGAIN = 15, TRY = 16;
        static final int CATCH = 17, LAST = 18, IF = 19, LOOP = 20;
        static final int MANY = 4, STEPS = 40;

        final int[] counts;
        final int[][] ops;
        final int[][] as;
        final int[][] bs;
        final int[][] cs;
        private final int[] open;

        Plans() {
            counts = new int[MANY];
            ops = new int[MANY][STEPS];
            as = new int[MANY][STEPS];
            bs = new int[MANY][STEPS];
            cs = new int[MANY][STEPS];
            open = new int[STEPS];
        }

        int append(int plan, int op, int a, int b, int c) {
            int place = counts[plan];
            if (place >= STEPS) return FULL;
            ops[plan][place] = op;
            as[plan][place] = a;
            bs[plan][place] = b;
            cs[plan][place] = c;
            counts[plan]++;
            return place;
        }

        int stepsInAll() {
            int all = 0;
            for (int plan = 0; plan < MANY; plan++) {
                all += counts[plan];
            }
            return all;
        }

        int opAt(int plan, int place) {
            return place < 0 || place >= counts[plan] ? NONE : ops[plan][place];
        }

        private static boolean hasBody(int op) {
            return op >= HOLD;
        }

        /** NONE, if the plan is well formed. */
        int firstWrong(int plan) {
            int depth = 0;
            boolean behindTry = false;
            for (int place = 0; place < counts[plan]; place++) {
                int op = ops[plan][place];
                boolean mayGoOn = behindTry;
                behindTry = false;
                if (op == END) {
                    if (depth == 0) return place;
                    depth--;
                    behindTry = open[depth] == TRY || open[depth] == CATCH;
                } else if (hasBody(op)) {
                    if ((op == CATCH || op == LAST) && !mayGoOn) return place;
                    open[depth] = op;
                    depth++;
                }
            }
            return depth > 0 ? counts[plan] : NONE;
        }

        /** The place of the END of the body behind a step. */
        int endOf(int plan, int opener) {
            int depth = 0;
            for (int place = opener + 1; place < counts[plan]; place++) {
                int op = ops[plan][place];
                if (op == END && depth == 0) return place;
                if (op == END) depth--;
                if (hasBody(op)) depth++;
            }
            return counts[plan];
        }

        /** The place of the first CATCH of those from a place on that is for a fault; NONE. */
        int catchFor(int plan, int from, int kind) {
            int place = from;
            for (int i = 0; i < STEPS && opAt(plan, place) == CATCH; i++) {
                if (as[plan][place] == 0 || as[plan][place] == kind) return place;
                place = endOf(plan, place) + 1;
            }
            return NONE;
        }

        int behindCatches(int plan, int from) {
            int place = from;
            for (int i = 0; i < STEPS && opAt(plan, place) == CATCH; i++) {
                place = endOf(plan, place) + 1;
            }
            return place;
        }
    }

    /**
     * Carries out plans. Open bodies are frames in a list of the object's own and not calls in one another, and what a
     * run changes is written in a journal, so that a KEEP costs no copy of all cells.
     */
    private static final class Acts {
        static final int ANSWER_TOLD = 0, STEPS = 1, PLACE_TOLD = 2, CAUSE_TOLD = 3, CATCHES = 4, LASTS = 5;
        static final int DEEPEST = 6, OWN_TOLD = 7, AROSE = 8, RAN = 9;
        private static final int STEPS_MOST = 300, DOS_MOST = 6, TURNS_MOST = 10000;
        /** 7 plans in one another, with 19 bodies and a DO each at most, stay below this. */
        private static final int FRAMES = 160;
        /** Each step changes one number at most, and each TAKE gives back once. */
        private static final int JOURNAL = 2 * STEPS_MOST + 2;

        // How the run goes on just now: its signal, and what belongs to a fault or an answer on its way out.
        private static final int SIGNAL = 0, KIND = 1, PLACE = 2, CAUSE = 3, OWN = 4, ANSWER = 5, WAY = 6;
        private static final int GOES = 0, FAULTED = 1, ANSWERED = 2, SPENT = 3;

        // What a frame holds; PLACE_OPENED is that of the TRY, CATCH or LAST whose body is done just now.
        private static final int OP = 0, PLAN_OPENED = 1, PLACE_OPENED = 2, JOURNAL_MARK = 3, TIMES_LEFT = 4, PHASE = 5;
        private static final int MET = 6, WAY_SAVED = 7, FRAME = WAY_SAVED + WAY;
        private static final int ROOT = -1;
        private static final int IN_BODY = 0, IN_CATCH = 1, IN_LAST = 2;

        final Thing[] bins;
        final Plans plans;
        final Asks asks;
        final long[] stock;
        final int[] valvePlace;
        final int[] valveHeld;
        final int[] ran;
        /** The fault that went out of the latest run; 0 without. */
        int wentOut;
        private int heldNow;
        private final Thing[] changed;
        private final int[] changedAt;
        private final long[] changedFrom;
        private int changes;
        private final int[][] frames;
        private int depth;
        private int dos;
        private int plan;
        private int place;
        private final int[] way;

        Acts() {
            bins = new Thing[BINS];
            plans = new Plans();
            asks = new Asks();
            stock = new long[STOCKS];
            valvePlace = new int[VALVES];
            valveHeld = new int[VALVES];
            ran = new int[RAN];
            ran[PLACE_TOLD] = NONE;
            changed = new Thing[JOURNAL];
            changedAt = new int[JOURNAL];
            changedFrom = new long[JOURNAL];
            frames = new int[FRAMES][FRAME];
            way = new int[WAY];
        }

        /** Carries out a plan that is well formed. */
        int carryOut(int start) {
            for (int i = 0; i < RAN; i++) {
                ran[i] = 0;
            }
            ran[PLACE_TOLD] = NONE;
            wentOut = 0;
            way[SIGNAL] = GOES;
            changes = 0;
            depth = 0;
            dos = 0;
            plan = start;
            place = 0;
            enter(ROOT);
            for (int turn = 0; turn < TURNS_MOST && depth > 0; turn++) {
                if (way[SIGNAL] == GOES && !isAtEnd()) begin();
                else leave();
            }
            return tellEnd();
        }

        private int tellEnd() {
            switch (way[SIGNAL]) {
                case FAULTED:
                    ran[PLACE_TOLD] = way[PLACE];
                    ran[CAUSE_TOLD] = way[CAUSE];
                    ran[OWN_TOLD] = way[OWN];
                    wentOut = way[KIND];
                    return -10 - wentOut;
                case ANSWERED:
                    ran[ANSWER_TOLD] = way[ANSWER];
                    return 1;
                case SPENT:
                    return -30;
                default:
                    return 0;
            }
        }

        private boolean isAtEnd() {
            int op = plans.opAt(plan, place);
            return op == NONE || op == Plans.END;
        }

        private boolean mayCountStep() {
            if (ran[STEPS] >= STEPS_MOST || depth >= FRAMES) {
                way[SIGNAL] = SPENT;
                return false;
            }
            ran[STEPS]++;
            return true;
        }

        private void begin() {
            if (!mayCountStep()) return;
            int op = plans.ops[plan][place];
            int a = plans.as[plan][place];
            int b = plans.bs[plan][place];
            int c = plans.cs[plan][place];
            int bar;
            if (lacksNumber(op, a, b, c)) bar = INDEX_FAULT;
            else if (op < Plans.DO) bar = act(op, a, b, c);
            else if (op == Plans.DO) bar = actPlan(a);
            else bar = actBody(op, a, b);
            if (bar != 0) arise(bar);
        }

        private static boolean lacksNumber(int op, int a, int b, int c) {
            switch (op) {
                case Plans.ADD: case Plans.OVER: case Plans.TAKE: case Plans.IF: case Plans.LOOP:
                    return !isStock(a);
                case Plans.LAY: case Plans.WRITE:
                    return !isBin(a);
                case Plans.READ:
                    return !isBin(a) || !isStock(c);
                case Plans.ASK:
                    return !isBin(a) || b < Asks.SIZE || b > Asks.MARK || !isStock(c);
                case Plans.WAKE: case Plans.HOLD: case Plans.OPEN:
                    return !isValve(a);
                case Plans.DO:
                    return !isPlan(a);
                default:
                    return false;
            }
        }

        private void arise(int kind) {
            way[SIGNAL] = FAULTED;
            way[KIND] = kind;
            way[PLACE] = place;
            way[CAUSE] = 0;
            if (kind != OWN_FAULT) way[OWN] = 0;
            ran[AROSE]++;
        }

        private int own(int number) {
            way[OWN] = number;
            return OWN_FAULT;
        }

        /** A step without a body: its fault, or 0. */
        private int act(int op, int a, int b, int c) {
            int bar = 0;
            switch (op) {
                case Plans.ADD: change(null, a, stock[a] + b); break;
                case Plans.OVER:
                    if (b == 0) bar = ZERO_FAULT;
                    else change(null, a, stock[a] / b);
                    break;
                case Plans.LAY:
                    bar = cellFault(bins[a], INTS, b);
                    if (bar == 0) change(bins[a], b, c);
                    break;
                case Plans.READ:
                    bar = cellFault(bins[a], INTS, b);
                    if (bar == 0) change(null, c, bins[a].cells[b]);
                    break;
                case Plans.WRITE:
                    bar = takenFault(bins[a], CARDS);
                    if (bar == 0) change(bins[a], INTS, b);
                    break;
                case Plans.ASK:
                    int told = asks.tell(bins[a], b);
                    bar = asks.bar;
                    if (bar == 0) change(null, c, told);
                    break;
                case Plans.FAIL: bar = own(a); break;
                case Plans.ANSWER:
                    way[SIGNAL] = ANSWERED;
                    way[ANSWER] = a;
                    break;
                default:
                    if (valveHeld[a] == 0) bar = STATE_FAULT;
                    break;
            }
            if (bar == 0) place++;
            return bar;
        }

        private int actPlan(int a) {
            if (plans.firstWrong(a) != NONE) return own(98);
            if (dos >= DOS_MOST) return own(99);
            enter(Plans.DO);
            dos++;
            plan = a;
            place = 0;
            return 0;
        }

        /** A step with a body begins: its fault, or 0. */
        private int actBody(int op, int a, int b) {
            switch (op) {
                case Plans.HOLD:
                    valveHeld[a]++;
                    heldNow++;
                    ran[DEEPEST] = Math.max(ran[DEEPEST], heldNow);
                    break;
                case Plans.TAKE:
                    if (b < 0 || stock[a] < b) return own(97);
                    change(null, a, stock[a] - b);
                    break;
                case Plans.OPEN:
                    valvePlace[a] = b;
                    break;
                case Plans.AGAIN:
                    if (a < 1 || a > 9) return own(96);
                    break;
                case Plans.IF: case Plans.LOOP:
                    if (stock[a] <= 0) {
                        place = plans.endOf(plan, place) + 1;
                        return 0;
                    }
                    break;
                default:
                    break;
            }
            enter(op);
            place++;
            return 0;
        }

        /** A frame more; mayCountStep() has looked whether there is room. */
        private void enter(int op) {
            int[] frame = frames[depth];
            frame[OP] = op;
            frame[PLAN_OPENED] = plan;
            frame[PLACE_OPENED] = place;
            frame[JOURNAL_MARK] = changes;
            frame[TIMES_LEFT] = plans.as[plan][place];
            frame[PHASE] = IN_BODY;
            depth++;
        }

        /** The newest body is left, on whatever way. */
        private void leave() {
            int[] frame = frames[depth - 1];
            int op = frame[OP];
            if (op == Plans.TRY && way[SIGNAL] != SPENT) {
                leaveTry(frame);
                return;
            }
            giveBack(frame);
            if (way[SIGNAL] == FAULTED && (op == ROOT || op == Plans.KEEP || op == Plans.AGAIN)) {
                undoTo(frame[JOURNAL_MARK]);
                if (op == Plans.AGAIN && frame[TIMES_LEFT] > 1) {
                    startAgain(frame);
                    return;
                }
            }
            close(frame);
        }

        private void giveBack(int[] frame) {
            int from = frame[PLAN_OPENED];
            int opener = frame[PLACE_OPENED];
            int a = plans.as[from][opener];
            switch (frame[OP]) {
                case Plans.HOLD:
                    valveHeld[a]--;
                    heldNow--;
                    break;
                case Plans.TAKE:
                    change(null, a, stock[a] + plans.bs[from][opener]);
                    break;
                case Plans.OPEN:
                    valvePlace[a] = plans.cs[from][opener];
                    break;
                default:
                    break;
            }
        }

        private void startAgain(int[] frame) {
            frame[TIMES_LEFT]--;
            way[SIGNAL] = GOES;
            place = frame[PLACE_OPENED] + 1;
            mayCountStep();
        }

        private void close(int[] frame) {
            depth--;
            plan = frame[PLAN_OPENED];
            if (frame[OP] == Plans.DO) {
                dos--;
                place = frame[PLACE_OPENED] + 1;
            } else if (frame[OP] == Plans.LOOP) {
                place = frame[PLACE_OPENED];
            } else {
                place++;
            }
        }

        /** One of the bodies of a TRY is left: it goes on with a CATCH, with LAST, or behind all of them. */
        private void leaveTry(int[] frame) {
            if (frame[PHASE] == IN_LAST) {
                leaveLast(frame);
                return;
            }
            int next = plans.endOf(plan, frame[PLACE_OPENED]) + 1;
            if (way[SIGNAL] == FAULTED && frame[PHASE] == IN_CATCH) way[CAUSE] = frame[MET];
            if (way[SIGNAL] == FAULTED && frame[PHASE] == IN_BODY) {
                int meeting = plans.catchFor(plan, next, way[KIND]);
                if (meeting != NONE) {
                    frame[MET] = way[KIND];
                    goOnIn(frame, IN_CATCH, meeting);
                    ran[CATCHES]++;
                    return;
                }
            }
            next = plans.behindCatches(plan, next);
            if (plans.opAt(plan, next) == Plans.LAST) {
                System.arraycopy(way, 0, frame, WAY_SAVED, WAY);
                goOnIn(frame, IN_LAST, next);
                ran[LASTS]++;
                return;
            }
            depth--;
            place = next;
        }

        private void goOnIn(int[] frame, int phase, int opener) {
            frame[PHASE] = phase;
            frame[PLACE_OPENED] = opener;
            place = opener + 1;
            way[SIGNAL] = GOES;
        }

        private void leaveLast(int[] frame) {
            if (way[SIGNAL] == GOES) {
                System.arraycopy(frame, WAY_SAVED, way, 0, WAY);
                place = plans.endOf(plan, frame[PLACE_OPENED]) + 1;
            } else if (way[SIGNAL] == FAULTED && frame[WAY_SAVED + SIGNAL] == FAULTED) {
                way[CAUSE] = frame[WAY_SAVED + KIND];
            }
            depth--;
        }

        /** A cell, or (without a thing) a stock, becomes another one; the journal knows what it was. */
        private void change(Thing thing, int i, long to) {
            if (changes >= JOURNAL) return;
            long[] cells = thing == null ? stock : thing.cells;
            changed[changes] = thing;
            changedAt[changes] = i;
            changedFrom[changes] = cells[i];
            changes++;
            cells[i] = to;
        }

        private void undoTo(int journalMark) {
            while (changes > journalMark && changes > 0) {
                changes--;
                long[] cells = changed[changes] == null ? stock : changed[changes].cells;
                cells[changedAt[changes]] = changedFrom[changes];
                changed[changes] = null;
            }
        }
    }

    /** Tables of lines that rest on one another. */
    private static final class Tables {
        static final int MANY = 3, LINES = 8, FURTHEST = 1000000;
        static final int IS_NEW = 0, IS_BEGUN = 1, IS_LAID = 2;

        final int[][] xs;
        final int[][] ys;
        final int[] lines;
        final int[] rests;
        final int[] states;
        final int[] offsets;
        final int[] order;
        int laidMany;

        Tables() {
            xs = new int[MANY][LINES];
            ys = new int[MANY][LINES];
            lines = new int[MANY];
            rests = new int[MANY];
            states = new int[MANY];
            offsets = new int[MANY];
            order = new int[MANY];
            for (int table = 0; table < MANY; table++) {
                rests[table] = NONE;
            }
        }

        int append(int table, int x, int y) {
            int many = lines[table];
            if (x < -FURTHEST || x > FURTHEST || y < -FURTHEST || y > FURTHEST) return BAD;
            if (many > 0 && x <= xs[table][many - 1]) return BAD;
            if (many >= LINES) return FULL;
            xs[table][many] = x;
            ys[table][many] = y;
            lines[table]++;
            return lines[table];
        }

        int valueAt(int table, int x) {
            lay(table, 0);
            return offsets[table] + heightAt(table, x);
        }

        private void lay(int table, int level) {
            if (states[table] != IS_NEW || level >= MANY) return;
            states[table] = IS_BEGUN;
            int on = rests[table];
            if (on != NONE) {
                lay(on, level + 1);
                offsets[table] = 1 + (states[on] == IS_LAID ? offsets[on] : 0);
            }
            states[table] = IS_LAID;
            order[laidMany] = table;
            laidMany++;
        }

        private int heightAt(int table, int x) {
            int many = lines[table];
            if (many == 0) return 0;
            int[] x0 = xs[table];
            int[] y0 = ys[table];
            if (x <= x0[0]) return y0[0];
            for (int i = 1; i < many; i++) {
                if (x < x0[i]) return lineAt(x, x0[i - 1], y0[i - 1], x0[i], y0[i]);
            }
            return y0[many - 1];
        }

        /** The height at x of the line between two points, cut downwards. */
        static int lineAt(int x, int xa, int ya, int xb, int yb) {
            if (xb == xa) return ya;
            return ya + (int) Math.floorDiv((long) (yb - ya) * ((long) x - xa), (long) xb - xa);
        }
    }

    /** The probes of all houses, and the vote of each house. */
    private static final class Probes {
        static final int MANY = 9;
        private static final int STUCK_MINUTES = 8, OFF_MINUTES = 3, NEAR_MINUTES = 5, READS_TO_JUDGE = 3;
        private static final int IS_IN = 0, IS_FAR = 1, IS_STUCK = 2;

        double part;
        final long[] values;
        /** For each house the probe whose reading is the value; NONE. */
        final int[] middles;
        final double[] readings;
        private final long[] bits;
        private final long[] bitsBefore;
        private final boolean[] reads;
        private final boolean[] turned;
        private final int[] same;
        private final int[] off;
        private final int[] near;
        private final int[] why;

        Probes() {
            part = 2.0;
            values = new long[HOUSES];
            middles = new int[HOUSES];
            readings = new double[MANY];
            bits = new long[MANY];
            bitsBefore = new long[MANY];
            reads = new boolean[MANY];
            turned = new boolean[MANY];
            same = new int[MANY];
            off = new int[MANY];
            near = new int[MANY];
            why = new int[MANY];
            for (int house = 0; house < HOUSES; house++) {
                values[house] = Reals.NO_NUMBER;
                middles[house] = NONE;
            }
            for (int probe = 0; probe < MANY; probe++) {
                bits[probe] = Reals.NO_NUMBER;
            }
        }

        void note(int probe, long reading) {
            bits[probe] = Reals.cutTo(DOUBLES, reading);
            reads[probe] = Reals.isNumber(reading);
            readings[probe] = reads[probe] ? Reals.toDouble(reading) : 0.0;
        }

        int tell(int probe, int what) {
            switch (what) {
                case 0: return why[probe] == IS_IN ? 1 : 0;
                case 1: return why[probe];
                case 2: return off[probe];
                case 3: return near[probe];
                case 4: return same[probe];
                default: return BAD;
            }
        }

        void vote(int house) {
            int reading = 0;
            for (int probe = house; probe < MANY; probe += HOUSES) {
                lookForTurn(probe);
                if (reads[probe]) reading++;
            }
            int middle = middleOf(house);
            middles[house] = middle;
            values[house] = middle == NONE ? Reals.NO_NUMBER : bits[middle];
            boolean judged = reading >= READS_TO_JUDGE && middle != NONE;
            for (int probe = house; probe < MANY; probe += HOUSES) {
                if (judged && reads[probe]) judge(probe, readings[middle]);
                else forget(probe);
                move(probe, house);
            }
        }

        private boolean votes(int probe) {
            return why[probe] == IS_IN && reads[probe];
        }

        private void lookForTurn(int probe) {
            boolean first = same[probe] == 0;
            boolean like = bits[probe] == bitsBefore[probe];
            turned[probe] = !first && !like;
            same[probe] = first || !like ? 1 : same[probe] + 1;
            bitsBefore[probe] = bits[probe];
        }

        private int middleOf(int house) {
            int voters = 0;
            for (int probe = house; probe < MANY; probe += HOUSES) {
                if (votes(probe)) voters++;
            }
            for (int probe = house; probe < MANY; probe += HOUSES) {
                if (votes(probe) && rankOf(probe, house) == (voters - 1) / 2) return probe;
            }
            return NONE;
        }

        private int rankOf(int probe, int house) {
            long mine = Reals.orderOf(bits[probe]);
            int rank = 0;
            for (int other = house; other < MANY; other += HOUSES) {
                long theirs = Reals.orderOf(bits[other]);
                if (votes(other) && (theirs < mine || theirs == mine && other < probe)) rank++;
            }
            return rank;
        }

        private void judge(int probe, double value) {
            double reading = readings[probe];
            // Two endless ones that are alike would be no number apart.
            double apart = reading == value ? 0.0 : reading - value;
            if (apart < 0.0) apart = 0.0 - apart;
            if (apart > part) {
                off[probe]++;
                near[probe] = 0;
            } else {
                near[probe]++;
                off[probe] = 0;
            }
        }

        private void forget(int probe) {
            off[probe] = 0;
            near[probe] = 0;
        }

        private void move(int probe, int house) {
            if (reads[probe] && same[probe] >= STUCK_MINUTES && anotherTurned(probe, house)) become(probe, IS_STUCK);
            else if (why[probe] == IS_IN && off[probe] >= OFF_MINUTES) become(probe, IS_FAR);
            else if (why[probe] != IS_IN && near[probe] >= NEAR_MINUTES) become(probe, IS_IN);
        }

        private void become(int probe, int what) {
            why[probe] = what;
            forget(probe);
        }

        private boolean anotherTurned(int probe, int house) {
            for (int other = house; other < MANY; other += HOUSES) {
                if (other != probe && turned[other]) return true;
            }
            return false;
        }
    }

    /** The air of the houses, minute by minute. */
    private static final class Air {
        static final int WARMTH = 0, VAPOUR = 1, DEW = 2, VENT = 3, PIPE = 4, REST = 5;
        static final int IN = 6, LOST = 7, WET = 8, GONE = 9, BOUND = 10, TOLD = 11;
        static final int DAY = 1440, MINUTES_MOST = 100000;
        static final int[] LEAST = {0, -40000, 0, 0, 0};
        static final int[] MOST = {1000, 60000, 40000, 1, 1};
        private static final int SUN = 0, WARMTH_OUTSIDE = 1, VAPOUR_OUTSIDE = 2, STORM = 3, RAIN = 4;
        private static final int MARKS = 6, COLDEST_WISH = -50000, WARMEST_WISH = 60000;
        private static final int VAPOUR_WITHOUT_TABLE = 9000;

        int minutes;
        final Probes probes;
        final Tables tables;
        final int[] outside;
        final long[][] states;
        final int[] markMany;
        private final int[][] markMinutes;
        private final int[][] markWishes;

        Air() {
            probes = new Probes();
            tables = new Tables();
            outside = new int[] {0, 10000, 5000, 0, 0};
            states = new long[HOUSES][TOLD];
            markMany = new int[HOUSES];
            markMinutes = new int[HOUSES][MARKS];
            markWishes = new int[HOUSES][MARKS];
            for (int house = 0; house < HOUSES; house++) {
                states[house][WARMTH] = 20000;
                states[house][VAPOUR] = 8000;
            }
        }

        int addMark(int house, int minute, int wish) {
            int many = markMany[house];
            if (minute < 0 || minute >= DAY || wish < COLDEST_WISH || wish > WARMEST_WISH) return BAD;
            if (many > 0 && minute <= markMinutes[house][many - 1]) return BAD;
            if (many >= MARKS) return FULL;
            markMinutes[house][many] = minute;
            markWishes[house][many] = wish;
            markMany[house]++;
            return markMany[house];
        }

        /** The wish of a house that has marks. */
        int wishAt(int house, int minute) {
            int[] at = markMinutes[house];
            int[] wishes = markWishes[house];
            int last = markMany[house] - 1;
            if (last <= 0) return wishes[0];
            for (int i = 1; i <= last; i++) {
                if (minute >= at[i - 1] && minute < at[i]) {
                    return Tables.lineAt(minute, at[i - 1], wishes[i - 1], at[i], wishes[i]);
                }
            }
            int sinceLastDay = minute < at[0] ? minute + DAY : minute;
            return Tables.lineAt(sinceLastDay, at[last], wishes[last], at[0] + DAY, wishes[0]);
        }

        void pass() {
            minutes++;
            for (int house = 0; house < HOUSES; house++) {
                probes.vote(house);
                steer(house);
                warm(states[house]);
                moisten(states[house]);
            }
        }

        private void steer(int house) {
            long[] state = states[house];
            long ventBefore = state[VENT];
            if (outside[STORM] == 1) {
                state[VENT] = toward(ventBefore, 0);
                return;
            }
            if (probes.middles[house] == NONE || markMany[house] == 0) {
                state[VENT] = toward(ventBefore, 10);
                state[PIPE] = toward(state[PIPE], 30);
            } else {
                steerByWish(house, state);
            }
            if (outside[RAIN] == 1 && state[VENT] > 20) state[VENT] = Math.max(20, ventBefore - 10);
        }

        private static long toward(long from, long to) {
            return from < to ? Math.min(to, from + 10) : Math.max(to, from - 10);
        }

        private void steerByWish(int house, long[] state) {
            long value = (long) (probes.readings[probes.middles[house]] * 1000.0);
            long apart = within(value, -1000000000, 1000000000) - wishAt(house, minutes % DAY);
            apart = within(apart, -100000, 100000);
            state[REST] = within(state[REST] + apart / 16, -4000, 4000);
            long move = within(apart / 400 + state[REST] / 500, -10, 10);
            if (move > 0) give(state, PIPE, VENT, move);
            if (move < 0) give(state, VENT, PIPE, 0 - move);
        }

        /** One of vent and pipe becomes less; what is left of the move comes to the other one. */
        private static void give(long[] state, int from, int to, long move) {
            long less = Math.min(state[from], move);
            state[from] -= less;
            state[to] = Math.min(100, state[to] + move - less);
        }

        private void warm(long[] state) {
            long in = outside[SUN] / 8 + 5 * state[PIPE];
            long lost = (state[WARMTH] - outside[WARMTH_OUTSIDE]) * (2 + state[VENT]) / 200;
            state[WARMTH] += in - lost;
            state[IN] += in;
            state[LOST] += lost;
        }

        private void moisten(long[] state) {
            long wet = 12 + outside[SUN] / 50;
            long gone = (state[VAPOUR] - outside[VAPOUR_OUTSIDE]) * state[VENT] / 80;
            long vapour = state[VAPOUR] + wet - gone;
            long lacks = vapour < 0 ? 0 - vapour : 0;
            vapour += lacks;
            long most = mostVapour(state[WARMTH]);
            long falls = Math.max(0, vapour - most);
            state[VAPOUR] = vapour - falls;
            state[DEW] += falls;
            state[WET] += wet;
            state[GONE] += gone;
            state[BOUND] += lacks;
        }

        private long mostVapour(long warmth) {
            if (tables.lines[0] == 0) return VAPOUR_WITHOUT_TABLE;
            return Math.max(0, tables.valueAt(0, (int) (warmth / 1000)));
        }
    }

    /** Works feeds in exact fractions: beside the salts' columns lie the right side and how each row was made. */
    private static final class Feed {
        static final int SALTS = 4, ROWS = 3, WISH = 4, WATER = 5;
        private static final int RIGHT = 4, MADE_OF = 5, COLUMNS = MADE_OF + ROWS;
        private static final int IS_NEW = 0, IS_NONE = 1, IS_WORKED = 2;

        final int[][] contents;
        private final long[][] upper;
        private final long[][] lower;
        private final int[] pivots;
        private final long[] fractionUpper;
        private final long[] fractionLower;
        private final long[] witness;
        private int rank;
        private int state;

        Feed() {
            contents = new int[WATER + 1][ROWS];
            upper = new long[ROWS][COLUMNS];
            lower = new long[ROWS][COLUMNS];
            pivots = new int[ROWS];
            fractionUpper = new long[SALTS];
            fractionLower = new long[SALTS];
            witness = new long[ROWS];
        }

        int solve() {
            lay();
            rank = 0;
            for (int column = 0; column < SALTS && rank < ROWS; column++) {
                workColumn(column);
            }
            for (int row = rank; row < ROWS; row++) {
                if (upper[row][RIGHT] != 0) {
                    state = IS_NONE;
                    findWitness(row);
                    return 0;
                }
            }
            state = IS_WORKED;
            return tellFractions();
        }

        long tell(int what, int k) {
            if (state == IS_NEW || k < 0 && what != 3) return 0;
            switch (what) {
                case 0: return state == IS_WORKED && k < SALTS ? fractionUpper[k] : 0;
                case 1: return state == IS_WORKED && k < SALTS ? fractionLower[k] : 0;
                case 2: return state == IS_NONE && k < ROWS ? witness[k] : 0;
                case 3: return rank;
                default: return 0;
            }
        }

        private void lay() {
            for (int row = 0; row < ROWS; row++) {
                for (int salt = 0; salt < SALTS; salt++) {
                    putFraction(row, salt, contents[salt][row], 1);
                }
                putFraction(row, RIGHT, contents[WISH][row] - contents[WATER][row], 1);
                for (int other = 0; other < ROWS; other++) {
                    putFraction(row, MADE_OF + other, row == other ? 1 : 0, 1);
                }
            }
        }

        private void putFraction(int row, int column, long up, long low) {
            long divisor = commonDivisor(up, low);
            if (divisor == 0) return;
            if (low < 0) divisor = 0 - divisor;
            upper[row][column] = up / divisor;
            lower[row][column] = low / divisor;
        }

        private void workColumn(int column) {
            for (int row = rank; row < ROWS; row++) {
                if (upper[row][column] != 0) {
                    swap(row, rank);
                    divide(rank, column);
                    for (int other = 0; other < ROWS; other++) {
                        if (other != rank) takeFrom(other, rank, column);
                    }
                    pivots[rank] = column;
                    rank++;
                    return;
                }
            }
        }

        private void swap(int one, int two) {
            for (int column = 0; column < COLUMNS; column++) {
                long up = upper[one][column];
                long low = lower[one][column];
                upper[one][column] = upper[two][column];
                lower[one][column] = lower[two][column];
                upper[two][column] = up;
                lower[two][column] = low;
            }
        }

        private void divide(int row, int by) {
            long up = upper[row][by];
            long low = lower[row][by];
            for (int column = 0; column < COLUMNS; column++) {
                putFraction(row, column, upper[row][column] * low, lower[row][column] * up);
            }
        }

        private void takeFrom(int row, int pivotRow, int by) {
            long up = upper[row][by];
            long low = lower[row][by];
            for (int column = 0; column < COLUMNS; column++) {
                long lessUp = up * upper[pivotRow][column];
                long lessLow = low * lower[pivotRow][column];
                putFraction(row, column, upper[row][column] * lessLow - lessUp * lower[row][column], lower[row][column] * lessLow);
            }
        }

        private int tellFractions() {
            for (int salt = 0; salt < SALTS; salt++) {
                fractionUpper[salt] = 0;
                fractionLower[salt] = 1;
            }
            int answer = 1;
            for (int row = 0; row < rank; row++) {
                fractionUpper[pivots[row]] = upper[row][RIGHT];
                fractionLower[pivots[row]] = lower[row][RIGHT];
                if (upper[row][RIGHT] < 0) answer = 2;
            }
            return answer;
        }

        private void findWitness(int row) {
            long whole = 1;
            for (int i = 0; i < ROWS; i++) {
                long low = lower[row][MADE_OF + i];
                long divisor = commonDivisor(whole, low);
                if (divisor != 0) whole *= low / divisor;
            }
            long common = 0;
            long first = 0;
            for (int i = 0; i < ROWS; i++) {
                long low = lower[row][MADE_OF + i];
                witness[i] = low == 0 ? 0 : upper[row][MADE_OF + i] * (whole / low);
                common = commonDivisor(common, witness[i]);
                if (first == 0) first = witness[i];
            }
            if (first < 0) common = 0 - common;
            for (int i = 0; i < ROWS && common != 0; i++) {
                witness[i] /= common;
            }
        }

        private static long commonDivisor(long one, long two) {
            long a = Math.abs(one);
            long b = Math.abs(two);
            for (int i = 0; i < 200 && b != 0; i++) {
                long rest = a % b;
                a = b;
                b = rest;
            }
            return a;
        }
    }

    /** Pests in whole numbers, and the sharing of wholes that water has in common with them. */
    private static final class Pests {
        static final int MANY = 2, STAGES = 4, MOST = 1000000000, DAYS_MOST = 10000, WAIT = 7;
        private static final int ALL_PARTS = 2000;

        final long[][] numbers;
        final int[][] goOn;
        final int[][] stay;
        final int[][] young;
        int days;
        int waits;
        private final long[] weights;
        private final long[] dealt;

        Pests() {
            numbers = new long[MANY][STAGES];
            goOn = new int[MANY][STAGES];
            stay = new int[MANY][STAGES];
            young = new int[MANY][STAGES];
            weights = new long[3];
            dealt = new long[3];
        }

        void pass() {
            for (int pest = 0; pest < MANY; pest++) {
                age(pest);
            }
            if (waits > 0) waits--;
            days++;
        }

        private void age(int pest) {
            long[] stages = numbers[pest];
            int oldest = STAGES - 1;
            long comes = stages[oldest] * young[pest][oldest] / 100;
            for (int stage = 0; stage < STAGES; stage++) {
                weights[0] = goOn[pest][stage];
                weights[1] = stay[pest][stage];
                weights[2] = ALL_PARTS - weights[0] - weights[1];
                deal(stages[stage], weights, dealt);
                stages[stage] = Math.min(MOST, dealt[1] + comes);
                comes = dealt[0];
            }
        }

        /** The sum of the cells; 0, if nothing can be shared by them. */
        static long sumToShareBy(long[] by) {
            long sum = 0;
            for (int i = 0; i < by.length; i++) {
                if (by[i] < 0) return 0;
                sum += by[i];
            }
            return sum;
        }

        static void deal(long n, long[] by, long[] to) {
            long sum = sumToShareBy(by);
            if (sum == 0 || to.length < by.length) return;
            long left = n;
            for (int i = 0; i < by.length; i++) {
                to[i] = n * by[i] / sum;
                left -= to[i];
            }
            for (int given = 0; given < by.length && left > 0; given++) {
                int best = greatestRest(n, by, to, sum);
                if (best == NONE) return;
                to[best]++;
                left--;
            }
        }

        /** The place with the greatest rest of those that got nothing of what was left yet. */
        private static int greatestRest(long n, long[] by, long[] to, long sum) {
            int best = NONE;
            long most = -1;
            for (int i = 0; i < by.length; i++) {
                long rest = n * by[i] % sum;
                if (to[i] == n * by[i] / sum && rest > most) {
                    best = i;
                    most = rest;
                }
            }
            return best;
        }
    }

    /** The pages of the books, which may be torn. */
    private static final class Pages {
        static final int MANY = 20, LENGTH = 64, CELLS = 6;
        private static final int LANE_AT = 4, CELLS_TOLD_AT = 5, ZEROS_AT = 6, CELLS_AT = 12, SUM_AT = 60;
        private static final int GREATEST_NUMBER = 2147483647, SUM_FACTOR = 0xC2B2AE35;

        int latest;
        int next;
        /** How many bytes more there is power for; NONE, if it stays. */
        int left;
        boolean dark;
        private final byte[] bytes;
        private final byte[] sheet;
        private final int[] found;

        Pages() {
            left = NONE;
            bytes = new byte[MANY * LENGTH];
            sheet = new byte[LENGTH];
            found = new int[MANY];
        }

        static boolean takesLane(int lane) {
            return lane == BYTES || lane == SHORTS || lane == INTS || lane == LONGS;
        }

        static boolean isByte(int page, int i) {
            return page >= 0 && page < MANY && i >= 0 && i < LENGTH;
        }

        boolean hasRoom() {
            return next < MANY && latest < GREATEST_NUMBER;
        }

        int byteAt(int page, int i) {
            return bytes[page * LENGTH + i] & 255;
        }

        int turn(int page, int i, int mask) {
            bytes[page * LENGTH + i] ^= (byte) mask;
            return byteAt(page, i);
        }

        /** Writes a row, as far as there is power: its number, or NO. */
        int putDown(Thing row) {
            fillSheet(row);
            int can = left == NONE ? LENGTH : Math.min(left, LENGTH);
            System.arraycopy(sheet, 0, bytes, next * LENGTH, can);
            if (left != NONE) left -= can;
            if (can > 0) next++;
            if (can < LENGTH) {
                dark = true;
                return NO;
            }
            latest++;
            return latest;
        }

        private void fillSheet(Thing row) {
            for (int i = 0; i < LENGTH; i++) {
                sheet[i] = 0;
            }
            putNumber(0, 4, latest + 1);
            sheet[LANE_AT] = (byte) row.form;
            sheet[CELLS_TOLD_AT] = (byte) row.cells.length;
            for (int c = 0; c < row.cells.length && c < CELLS; c++) {
                putNumber(CELLS_AT + 8 * c, 8, row.cells[c]);
            }
            putNumber(SUM_AT, 4, sumOf(sheet, 0));
        }

        private void putNumber(int at, int many, long number) {
            for (int i = 0; i < many; i++) {
                sheet[at + i] = (byte) (number >> 8 * (many - 1 - i));
            }
        }

        private static int sumOf(byte[] from, int start) {
            int sum = 0;
            for (int i = 0; i < SUM_AT; i++) {
                sum ^= from[start + i] & 255;
                sum = (sum << 11 | sum >>> 21) * SUM_FACTOR;
            }
            return sum;
        }

        private long numberAt(int page, int at, int many) {
            long number = bytes[page * LENGTH + at];
            for (int i = 1; i < many; i++) {
                number = number << 8 | byteAt(page, at + i);
            }
            return number;
        }

        private long numberOf(int page) {
            return numberAt(page, 0, 4);
        }

        private long cellOf(int page, int c) {
            return numberAt(page, CELLS_AT + 8 * c, 8);
        }

        private boolean isWhole(int page) {
            int lane = byteAt(page, LANE_AT);
            int cells = byteAt(page, CELLS_TOLD_AT);
            if (numberOf(page) < 1 || !takesLane(lane) || cells > CELLS) return false;
            if (!isBlank(page, ZEROS_AT, CELLS_AT)) return false;
            for (int c = 0; c < cells; c++) {
                if (cellOf(page, c) != Reals.cutTo(lane, cellOf(page, c))) return false;
            }
            if (!isBlank(page, CELLS_AT + 8 * cells, SUM_AT)) return false;
            return numberAt(page, SUM_AT, 4) == sumOf(bytes, page * LENGTH);
        }

        private boolean isBlank(int page, int from, int to) {
            for (int i = from; i < to; i++) {
                if (byteAt(page, i) != 0) return false;
            }
            return true;
        }

        int openUp() {
            left = NONE;
            dark = false;
            next = 0;
            for (int page = 0; page < MANY; page++) {
                if (!isBlank(page, 0, LENGTH)) next = page + 1;
            }
            int many = gather();
            latest = many == 0 ? 0 : (int) numberOf(found[many - 1]);
            return many;
        }

        /** Finds the pages that are read, in the order of their numbers: how many. */
        int gather() {
            int many = 0;
            for (int page = 0; page < MANY; page++) {
                if (isWhole(page)) many = insert(page, many);
            }
            return many;
        }

        private int insert(int page, int many) {
            long number = numberOf(page);
            int at = many;
            while (at > 0 && numberOf(found[at - 1]) > number) {
                at--;
            }
            if (at > 0 && numberOf(found[at - 1]) == number) return many;
            for (int i = many; i > at; i--) {
                found[i] = found[i - 1];
            }
            found[at] = page;
            return many + 1;
        }

        int clashes() {
            int many = gather();
            int clashing = 0;
            for (int page = 0; page < MANY; page++) {
                if (isWhole(page) && differsFromRead(page, many)) clashing++;
            }
            return clashing;
        }

        private boolean differsFromRead(int page, int many) {
            for (int k = 0; k < many; k++) {
                if (numberOf(found[k]) == numberOf(page)) return !sameBytes(found[k], page);
            }
            return false;
        }

        private boolean sameBytes(int one, int two) {
            for (int i = 0; i < LENGTH; i++) {
                if (byteAt(one, i) != byteAt(two, i)) return false;
            }
            return true;
        }

        long tell(int k, int what) {
            if (k < 0 || k >= gather()) return NONE;
            int page = found[k];
            int cells = byteAt(page, CELLS_TOLD_AT);
            switch (what) {
                case 0: return page;
                case 1: return numberOf(page);
                case 2: return byteAt(page, LANE_AT);
                case 3: return cells;
                default: return what >= 10 && what - 10 < cells ? cellOf(page, what - 10) : NONE;
            }
        }
    }
}
