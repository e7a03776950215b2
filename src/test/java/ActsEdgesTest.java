/** The edges that promises 32 to 39 and part 3 of the terms name; labels are the document's words. */
public final class ActsEdgesTest {
    private static final int BAD = GlassHouse.BAD, NONE = GlassHouse.NONE, NO = GlassHouse.NO, FULL = GlassHouse.FULL;
    private static final int END = 0, ADD = 1, OVER = 2, LAY = 3, READ = 4, WRITE = 5, ASK = 6, FAIL = 7, ANSWER = 8;
    private static final int WAKE = 9, DO = 10, HOLD = 11, TAKE = 12, OPEN = 13, KEEP = 14, AGAIN = 15, TRY = 16;
    private static final int CATCH = 17, LAST = 18, IF = 19, LOOP = 20;
    private static final int LEAST = Integer.MIN_VALUE, MOST = Integer.MAX_VALUE;
    private static final int INDEX = -12, ZERO = -16, STATE = -17, OWN = -18, SPENT = -30;

    public static void main(String[] args) {
        hasFourPlansOf40();
        isWellFormedUpToTheLast();
        needsNumbersThatAre();
        addsAndWraps();
        dividesAndCuts();
        laysAndReadsCells();
        writesInts();
        failsAndAnswersWithAnyNumber();
        wakesWhatIsHeld();
        takesUpToAll();
        takesAsOftenAsMayBe();
        opensNewestFirst();
        keepsUpToTheLastStep();
        goesAgain1To9Times();
        catches0To8();
        isMetByTheFirstThatIsForIt();
        looksWhetherAbove0();
        nestsAsDeepAsMayBe();
        countsEachStepThatBegins();
        isSpentWithThe301st();
        isSpentWithinAgain();
        isSpentOnEveryWay();
        givesBackOnTheWayOfALast();
        asksInARun();
        hasStockAndValves();
        Check.end();
    }

    private static int[] s(int op, int... numbers) {
        int[] step = new int[4];
        step[0] = op;
        System.arraycopy(numbers, 0, step, 1, numbers.length);
        return step;
    }

    private static void plan(GlassHouse x, int plan, int[]... steps) {
        x.drop(plan);
        for (int i = 0; i < steps.length; i++) {
            Check.due("step", x.step(plan, steps[i][0], steps[i][1], steps[i][2], steps[i][3]), i);
        }
    }

    private static long runOf(GlassHouse x, int[]... steps) {
        plan(x, 0, steps);
        return x.run(0);
    }

    private static void ran(GlassHouse x, String what, long... want) {
        long[] got = new long[9];
        for (int k = 0; k < 9; k++) got[k] = x.ran(k);
        Check.all(what, got, want);
    }

    /** BIN 0 has 40 ints, 1 a CARD, 2 a TOMATO, 3 a row of no ints, 15 NOTHING. */
    private static GlassHouse yard() {
        GlassHouse x = new GlassHouse();
        x.row(0, 4, 40);
        x.card(1);
        x.plant(2, 1, 4, 3, 0, 0);
        x.row(3, 4, 0);
        return x;
    }

    private static void hasFourPlansOf40() {
        GlassHouse x = new GlassHouse();
        for (int plan = 0; plan < 4; plan++) {
            for (int place = 0; place < 40; place++) Check.due("by PLACES from 0 on", x.step(plan, place % 10 == 9 ? 1 : 8, plan, 0, 0), place);
            Check.due("up to 40 STEPS", x.step(plan, 1, 0, 0, 0), FULL);
        }
        Check.due("in all PLANS", x.told(9), 160);
        Check.due("its own", x.run(3) * 10 + x.ran(0), 13);
        Check.due("drop: how many it had", x.drop(2), 40);
        Check.due("others stay", x.told(9), 120);
        Check.due("no STEPS", x.run(2), 0);
        Check.due("from 0 on again", x.step(2, 20, 0, 0, 0), 0);
        Check.all("OPs 0 .. 20", new long[] {x.step(2, 0, 0, 0, 0), x.step(2, -1, 0, 0, 0), x.step(2, 21, 0, 0, 0), x.drop(2)}, 1, BAD, BAD, 2);
    }

    private static void isWellFormedUpToTheLast() {
        for (int op = 0; op <= 20; op++) {
            GlassHouse x = new GlassHouse();
            for (int place = 0; place < 39; place++) x.step(0, ADD, 0, 1, 0);
            Check.due("39 plain ones", x.formed(0), NONE);
            x.step(0, op, 0, 0, 0);
            int due = op == END || op == CATCH || op == LAST ? 39 : op >= HOLD ? 40 : NONE;
            Check.due("the 40th is " + op, x.formed(0), due);
            x.drop(0);
            x.step(0, op, 0, 0, 0);
            due = op == END || op == CATCH || op == LAST ? 0 : op >= HOLD ? 1 : NONE;
            Check.due("the first is " + op, x.formed(0), due);
            x.step(0, END, 0, 0, 0);
            due = op == END || op == CATCH || op == LAST ? 0 : op >= HOLD ? NONE : 1;
            Check.due("with its END", x.formed(0), due);
            x.drop(0);
            x.step(0, TRY, 0, 0, 0);
            x.step(0, op, 0, 0, 0);
            due = op == END ? NONE : op == CATCH || op == LAST ? 1 : 2;
            Check.due("in a TRY", x.formed(0), due);
            x.drop(0);
            for (int k : new int[] {TRY, END, CATCH, END, op, END}) x.step(0, k, 0, 0, 0);
            due = op == END ? 4 : op >= HOLD ? NONE : 5;
            Check.due("behind a CATCH", x.formed(0), due);
            x.drop(0);
            for (int k : new int[] {TRY, END, LAST, END, op, END}) x.step(0, k, 0, 0, 0);
            due = op == END || op == CATCH || op == LAST ? 4 : op >= HOLD ? NONE : 5;
            Check.due("behind a LAST", x.formed(0), due);
            x.drop(0);
            for (int k : new int[] {op, END, CATCH, END}) x.step(0, k, 0, 0, 0);
            due = op == TRY ? NONE : op == END || op == CATCH || op == LAST ? 0 : op >= HOLD ? 2 : 1;
            Check.due("right behind its END", x.formed(0), due);
        }
        GlassHouse x = new GlassHouse();
        for (int place = 0; place < 40; place++) x.step(0, place < 20 ? HOLD : END, 0, 0, 0);
        Check.due("20 in one another", x.formed(0), NONE);
        x.drop(0);
        for (int place = 0; place < 40; place++) x.step(0, place < 21 ? HOLD : END, 0, 0, 0);
        Check.due("two ENDs lack", x.formed(0), 40);
        x.drop(0);
        for (int place = 0; place < 40; place++) x.step(0, place < 19 ? HOLD : END, 0, 0, 0);
        Check.due("an END too many", x.formed(0), 38);
        x.drop(0);
        for (int place = 0; place < 40; place++) x.step(0, place % 2 == 1 ? END : place == 0 ? TRY : place == 38 ? LAST : CATCH, 8, 0, 0);
        Check.due("any number of CATCHES", x.formed(0), NONE);
        Check.due("run", x.run(0), 0);
        ran(x, "18 CATCHES and LAST are no STEPS", 0, 1, NONE, 0, 0, 1, 0, 0, 0);
        x.drop(0);
        for (int place = 0; place < 40; place++) x.step(0, place % 2 == 1 ? END : place == 0 ? TRY : CATCH, 0, 0, 0);
        Check.due("19 CATCHES", x.formed(0) * 10 + x.run(0), 10 * NONE);
        ran(x, "19 CATCHES are no STEPS", 0, 1, NONE, 0, 0, 0, 0, 0, 0);
        x.drop(0);
        x.step(0, TRY, 0, 0, 0);
        x.step(0, FAIL, 4, 0, 0);
        x.step(0, END, 0, 0, 0);
        for (int k = 0; k < 36; k++) x.step(0, k % 2 == 1 ? END : CATCH, k == 34 ? 8 : 7, 0, 0);
        Check.due("the 18th meets it", x.run(0), 0);
        ran(x, "the 18th", 0, 2, NONE, 0, 1, 0, 0, 0, 1);
    }

    private static void needsNumbersThatAre() {
        int[] stocks = {0, 5};
        int[] valves = {0, 2};
        int[] plans = {1, 3};
        for (int op : new int[] {ADD, OVER, TAKE, IF, LOOP}) numbers(op, stocks, 0, 5);
        for (int op : new int[] {HOLD, OPEN}) numbers(op, valves, 0, 2);
        numbers(DO, plans, 0, 3);
        GlassHouse x = yard();
        for (int far : new int[] {-1, 3, LEAST, MOST}) Check.due("WAKE", runOf(x, s(WAKE, far)), INDEX);
        for (int v = 0; v < 3; v++) Check.due("WAKE", runOf(x, s(WAKE, v)), STATE);
        for (int far : new int[] {-1, 16, LEAST, MOST}) {
            Check.due("LAY", runOf(x, s(LAY, far, 0, 0)), INDEX);
            Check.due("READ", runOf(x, s(READ, far, 0, 0)), INDEX);
            Check.due("WRITE", runOf(x, s(WRITE, far, 0)), INDEX);
            Check.due("ASK", runOf(x, s(ASK, far, 0, 0)), INDEX);
        }
        for (int bin : new int[] {4, 15}) {
            Check.due("LAY", runOf(x, s(LAY, bin, 0, 0)), -11);
            Check.due("READ", runOf(x, s(READ, bin, 0, 0)), -11);
            Check.due("WRITE", runOf(x, s(WRITE, bin, 0)), -11);
            Check.due("ASK", runOf(x, s(ASK, bin, 0, 0)), -11);
        }
        for (int far : new int[] {-1, 6, LEAST, MOST}) {
            Check.due("READ c", runOf(x, s(READ, 0, 0, far)), INDEX);
            Check.due("ASK c", runOf(x, s(ASK, 2, 0, far)), INDEX);
            Check.due("ahead of what the BIN holds", runOf(x, s(READ, 1, 0, far)) + runOf(x, s(READ, 15, 0, far)), 2 * INDEX);
            Check.due("ahead of what the BIN holds", runOf(x, s(ASK, 1, 0, far)) + runOf(x, s(ASK, 15, 0, far)), 2 * INDEX);
        }
        for (int far : new int[] {-1, 4, 7, LEAST, MOST}) {
            Check.due("ASK b: else INDEX", runOf(x, s(ASK, 2, far, 0)), INDEX);
            Check.due("ahead of what the BIN holds", runOf(x, s(ASK, 1, far, 0)) + runOf(x, s(ASK, 15, far, 0)), 2 * INDEX);
        }
        for (int b = 0; b < 4; b++) Check.due("ASK b", runOf(x, s(ASK, 2, b, 5)), 0);
    }

    private static void numbers(int op, int[] are, int least, int most) {
        GlassHouse x = yard();
        boolean body = op >= HOLD;
        for (int a : new int[] {least - 1, most + 1, LEAST, MOST}) {
            Check.due("number " + a + " of " + op, body ? runOf(x, s(op, a, 1, 1), s(END)) : runOf(x, s(op, a, 1, 1)), INDEX);
        }
        for (int a : are) {
            x.setStock(a, op == TAKE ? 1 : 0);
            Check.due("number " + a + " of " + op, body ? runOf(x, s(op, a, 1, 1), s(END)) : runOf(x, s(op, a, 1, 1)), 0);
        }
    }

    private static void addsAndWraps() {
        long[] stocks = {0, Long.MAX_VALUE, Long.MIN_VALUE, Long.MAX_VALUE - MOST, Long.MIN_VALUE - LEAST};
        int[] more = {0, 1, -1, MOST, LEAST};
        for (long stock : stocks) {
            GlassHouse x = new GlassHouse();
            for (int b : more) {
                x.setStock(5, stock);
                Check.due("ADD", runOf(x, s(ADD, 5, b)), 0);
                Check.due("wraps", x.stock(5), stock + b);
                Check.due("no other", x.stock(4), 0);
            }
        }
    }

    private static void dividesAndCuts() {
        long[] stocks = {0, 7, -7, Long.MAX_VALUE, Long.MIN_VALUE};
        int[] by = {1, -1, 2, -2, MOST, LEAST};
        for (long stock : stocks) {
            GlassHouse x = new GlassHouse();
            for (int b : by) {
                x.setStock(0, stock);
                Check.due("OVER", runOf(x, s(OVER, 0, b)), 0);
                Check.due("by b, cut", x.stock(0), stock / b);
            }
            x.setStock(0, stock);
            Check.due("by 0", runOf(x, s(OVER, 0, 0)) * 10L + x.fault(), ZERO * 10L + 6);
            Check.due("stays", x.stock(0), stock);
        }
    }

    private static void laysAndReadsCells() {
        GlassHouse x = yard();
        for (int i : new int[] {0, 39}) {
            for (int c : new int[] {MOST, LEAST, -1, 0}) {
                Check.due("LAY and READ", runOf(x, s(LAY, 0, i, c), s(READ, 0, i, 5)), 0);
                Check.due("CELL", x.get(0, 4, i), c);
                Check.due("STOCK", x.stock(5), c);
            }
        }
        for (int i : new int[] {-1, 40, LEAST, MOST}) {
            Check.due("LAY", runOf(x, s(LAY, 0, i, 1)), INDEX);
            Check.due("READ", runOf(x, s(READ, 0, i, 1)), INDEX);
        }
        Check.due("of no CELLS", runOf(x, s(LAY, 3, 0, 1)) + runOf(x, s(READ, 3, 0, 1)), 2 * INDEX);
        for (int lane = 0; lane < 8; lane++) {
            x.row(4, lane, 1);
            Check.due("TAKEN FOR ints", runOf(x, s(LAY, 4, 0, 1)), lane == 4 ? 0 : -14);
            Check.due("TAKEN FOR ints", runOf(x, s(READ, 4, 0, 1)), lane == 4 ? 0 : -14);
            Check.due("CAST ahead of INDEX", runOf(x, s(LAY, 4, 1, 1)), lane == 4 ? INDEX : -14);
        }
    }

    private static void writesInts() {
        GlassHouse x = yard();
        for (int b : new int[] {MOST, LEAST, 0}) {
            Check.due("WRITE", runOf(x, s(WRITE, 1, b)), 0);
            Check.due("the int", x.field(1, 4), b);
            for (int lane = 0; lane < 8; lane++) if (lane != 4) Check.due("no other FIELD", x.field(1, lane), 0);
        }
        Check.due("a ROW", runOf(x, s(WRITE, 0, 1)), -14);
        Check.due("a PLANT", runOf(x, s(WRITE, 2, 1)), -14);
    }

    private static void failsAndAnswersWithAnyNumber() {
        GlassHouse x = new GlassHouse();
        for (int a : new int[] {0, 1, -1, MOST, LEAST}) {
            Check.due("FAIL", runOf(x, s(FAIL, a)), OWN);
            ran(x, "FAIL " + a, 0, 1, 0, 0, 0, 0, 0, a, 1);
            Check.due("ANSWER", runOf(x, s(ANSWER, a), s(FAIL, 1)), 1);
            ran(x, "ANSWER " + a, a, 1, NONE, 0, 0, 0, 0, 0, 0);
        }
        Check.due("another FAULT has no number", runOf(x, s(TRY), s(FAIL, 5), s(END), s(CATCH, 8), s(WAKE, 0), s(END)), STATE);
        ran(x, "STATE", 0, 3, 4, 8, 1, 0, 0, 0, 2);
    }

    private static void wakesWhatIsHeld() {
        GlassHouse x = new GlassHouse();
        for (int v = 0; v < 3; v++) {
            for (int other = 0; other < 3; other++) {
                Check.due("held", runOf(x, s(HOLD, v), s(WAKE, other), s(END)), v == other ? 0 : STATE);
                Check.due("held twice, then once", runOf(x, s(HOLD, v), s(HOLD, other), s(END), s(WAKE, v), s(END)), 0);
                Check.due("how deep", x.ran(6), 2);
            }
            Check.due("behind it", runOf(x, s(HOLD, v), s(END), s(WAKE, v)), STATE);
            Check.due("PLACE", x.ran(2), 2);
        }
    }

    private static void takesUpToAll() {
        long[][] rows = {{5, 5, 0}, {5, 6, OWN}, {5, 0, 0}, {0, 0, 0}, {0, 1, OWN}, {-1, 0, OWN}, {5, -1, OWN}, {Long.MAX_VALUE, MOST, 0},
            {Long.MIN_VALUE, LEAST, OWN}, {Long.MIN_VALUE, 0, OWN}, {MOST, MOST, 0}, {MOST - 1L, MOST, OWN}};
        for (long[] r : rows) {
            GlassHouse x = new GlassHouse();
            x.setStock(2, r[0]);
            Check.due("TAKE " + r[1] + " of " + r[0], runOf(x, s(TAKE, 2, (int) r[1]), s(ADD, 1, 1), s(END)), r[2]);
            Check.due("97", x.ran(7), r[2] == 0 ? 0 : 97);
            Check.due("its BODY", x.stock(1), r[2] == 0 ? 1 : 0);
            Check.due("more by it behind", x.stock(2), r[0]);
        }
        GlassHouse x = new GlassHouse();
        x.setStock(0, 10);
        Check.due("less within", runOf(x, s(TAKE, 0, 10), s(TRY), s(TAKE, 0, 1), s(END), s(END), s(CATCH, 8), s(END), s(IF, 0), s(FAIL, 1),
            s(END), s(END), s(IF, 0), s(ANSWER, 3), s(END)), 1);
        Check.due("given back", x.stock(0), 10);
        x.setStock(0, 7);
        Check.due("it wraps back", runOf(x, s(TAKE, 0, 7), s(ADD, 0, -1), s(OVER, 0, 1), s(END)), 0);
        Check.due("what the BODY did stays", x.stock(0), 6);
    }

    /** 14 times 18 in one another: hardly a STEP that does not change a STOCK twice. */
    private static void takesAsOftenAsMayBe() {
        GlassHouse x = new GlassHouse();
        x.setStock(0, 100);
        x.setStock(1, 14);
        x.step(0, LOOP, 1, 0, 0);
        for (int i = 0; i < 18; i++) x.step(0, TAKE, 0, 1, 0);
        for (int i = 0; i < 18; i++) x.step(0, END, 0, 0, 0);
        x.step(0, ADD, 1, -1, 0);
        x.step(0, END, 0, 0, 0);
        Check.due("what is given back goes back on every way out", x.run(0), 0);
        ran(x, "of many TAKES", 0, 281, NONE, 0, 0, 0, 0, 0, 0);
        Check.due("what was taken", x.stock(0), 100);
        Check.due("how often", x.stock(1), 0);
        x.setStock(1, 20);
        Check.due("with the 301st the RUN is SPENT", x.run(0), SPENT);
        ran(x, "of more TAKES", 0, 300, NONE, 0, 0, 0, 0, 0, 0);
        Check.due("what was taken in a RUN that is SPENT", x.stock(0), 100);
        Check.due("STOCK stays as it is", x.stock(1), 5);
        x.setStock(1, 14);
        Check.due("the last STEP there may be", x.step(0, FAIL, 9, 0, 0), 39);
        Check.due("a FAULT behind many TAKES", x.run(0), OWN);
        ran(x, "of many TAKES and a FAULT", 0, 282, 39, 0, 0, 0, 0, 9, 1);
        Check.due("all STOCK is as ahead of it", x.stock(0), 100);
        Check.due("all STOCK is as ahead of it, the other one", x.stock(1), 14);
    }

    private static void opensNewestFirst() {
        GlassHouse x = new GlassHouse();
        Check.due("OPEN in OPEN", runOf(x, s(OPEN, 0, 1, 2), s(OPEN, 0, 3, 4), s(END), s(END)), 0);
        Check.due("the newest first", x.valve(0, 0), 2);
        Check.due("a FAULT", runOf(x, s(OPEN, 0, 1, LEAST), s(OPEN, 0, 3, 4), s(OPEN, 1, 5, MOST), s(FAIL, 1), s(END), s(END), s(END)), OWN);
        Check.due("the newest first", x.valve(0, 0), LEAST);
        Check.due("the other", x.valve(1, 0), MOST);
        Check.due("no more", x.valve(2, 0), 0);
        x.setStock(0, 5);
        Check.due("TAKE in TAKE", runOf(x, s(TAKE, 0, 2), s(TAKE, 0, 3), s(FAIL, 1), s(END), s(END)), OWN);
        Check.due("both given back", x.stock(0), 5);
    }

    private static void keepsUpToTheLastStep() {
        GlassHouse x = yard();
        // TRY, KEEP, 27 times round with 11 steps each, and one more LOOP
        x.setStock(0, 1);
        x.setStock(1, 5);
        for (int i = 0; i < 5; i++) x.put(0, 4, i, 50 + i);
        plan(x, 1, s(LAY, 0, 0, 9), s(LAY, 0, 1, 8), s(WRITE, 1, 7), s(TAKE, 1, 5), s(ADD, 2, 1), s(LAY, 0, 0, 3), s(END), s(ADD, 3, 1));
        plan(x, 0, s(TRY), s(KEEP), s(LOOP, 0), s(DO, 1), s(ADD, 4, 1), s(IF, 5), s(FAIL, 1), s(END), s(END), s(END), s(END), s(CATCH, 0), s(END));
        Check.due("without end", x.run(0), SPENT);
        Check.all("stay as they are", new long[] {x.get(0, 4, 0), x.get(0, 4, 1), x.field(1, 4), x.stock(1), x.stock(2), x.stock(3), x.stock(4)},
            3, 8, 7, 5, 27, 27, 27);
        GlassHouse y = yard();
        y.setStock(0, 48);
        y.put(0, 4, 0, 50);
        plan(y, 0, s(KEEP), s(LOOP, 0), s(LAY, 0, 0, 9), s(WRITE, 1, 7), s(ADD, 0, -1), s(ADD, 2, 1), s(ADD, 3, 1), s(END), s(FAIL, 4), s(END));
        Check.due("291 steps", y.run(0), OWN);
        Check.due("steps", y.ran(1), 1 + 48 * 6 + 1 + 1);
        Check.due("as ahead", y.stock(0) * 1000 + y.stock(2) + y.stock(3) + y.get(0, 4, 0) + y.field(1, 4), 48050);
        GlassHouse z = yard();
        z.setStock(0, 1000);
        for (int i = 0; i < 13; i++) z.step(0, TAKE, 0, i + 1, 0);
        z.step(0, FAIL, 1, 0, 0);
        for (int i = 0; i < 13; i++) z.step(0, END, 0, 0, 0);
        Check.due("thirteen times taken", z.run(0) * 10L + z.stock(0), OWN * 10L + 1000);
    }

    private static void goesAgain1To9Times() {
        for (int a : new int[] {-1, 0, 1, 2, 9, 10, LEAST, MOST}) {
            boolean is = a >= 1 && a <= 9;
            GlassHouse x = yard();
            Check.due("AGAIN " + a, runOf(x, s(AGAIN, a), s(LAY, 0, 0, 4), s(FAIL, 3), s(END)), OWN);
            ran(x, "a times at most", 0, is ? 3 * a : 1, is ? 2 : 0, 0, 0, 0, 0, is ? 3 : 96, is ? a : 1);
            Check.due("as of KEEP", x.get(0, 4, 0), 0);
            Check.due("without a FAULT once", runOf(x, s(AGAIN, a), s(ADD, 0, 1), s(END)), is ? 0 : OWN);
            Check.due("once", x.stock(0), is ? 1 : 0);
        }
        GlassHouse x = yard();
        // The places of VALVES are not kept, so a body can know that it was here before by what is held alone.
        plan(x, 0, s(TRY), s(AGAIN, 2), s(TRY), s(WAKE, 0), s(END), s(CATCH, 7), s(FAIL, 6), s(END), s(END), s(END), s(CATCH, 8), s(FAIL, 7), s(END));
        Check.due("twice, then out", x.run(0), OWN);
        ran(x, "its cause is the one met", 0, 1 + 2 * 4 + 1, 11, 8, 3, 0, 0, 7, 5);
        plan(x, 0, s(AGAIN, 3), s(OVER, 0, 0), s(END));
        x.run(0);
        Check.due("that FAULT is no CAUSE then", x.ran(3), 0);
    }

    private static void catches0To8() {
        int[][] faulty = {s(LAY, 15, 0, 0), s(LAY, 0, 40, 0), s(LAY, 1, 0, 0), s(OVER, 0, 0), s(WAKE, 0), s(FAIL, 5)};
        int[] kinds = {1, 2, 4, 6, 7, 8};
        for (int i = 0; i < faulty.length; i++) {
            for (int a : new int[] {0, 1, 2, 3, 4, 5, 6, 7, 8, -1, 9, LEAST, MOST}) {
                GlassHouse x = yard();
                boolean met = a == 0 || a == kinds[i];
                Check.due("CATCH " + a + " of " + kinds[i], runOf(x, s(TRY), faulty[i], s(END), s(CATCH, a), s(ANSWER, 3), s(END)),
                    met ? 1 : -10 - kinds[i]);
                ran(x, "CATCH", met ? 3 : 0, met ? 3 : 2, met ? NONE : 1, 0, met ? 1 : 0, 0, 0, met || kinds[i] != 8 ? 0 : 5, 1);
                Check.due("fault()", x.fault(), met ? 0 : kinds[i]);
            }
        }
    }

    private static void isMetByTheFirstThatIsForIt() {
        // CATCHES with bodies in their bodies, two for the FAULT, all others for other ones
        for (int many = 1; many <= 7; many++) {
            for (int meets = 0; meets < many; meets++) {
                GlassHouse x = yard();
                x.step(0, TRY, 0, 0, 0);
                x.step(0, OVER, 0, 0, 0);
                x.step(0, END, 0, 0, 0);
                for (int k = 0; k < many; k++) {
                    x.step(0, CATCH, k == meets || k == meets + 1 ? 6 : 1 + k % 4, 0, 0);
                    x.step(0, KEEP, 0, 0, 0);
                    x.step(0, ADD, 1, 1 << k, 0);
                    x.step(0, END, 0, 0, 0);
                    x.step(0, END, 0, 0, 0);
                }
                x.step(0, ADD, 2, 1, 0);
                Check.due("the first of its CATCHES that is for it", x.run(0) * 1000 + x.stock(1), 1 << meets);
                ran(x, "one of " + many, 0, 5, NONE, 0, 1, 0, 0, 0, 1);
            }
        }
        for (int many = 0; many <= 17; many++) {
            GlassHouse x = yard();
            x.step(0, TRY, 0, 0, 0);
            x.step(0, WAKE, 0, 0, 0);
            x.step(0, END, 0, 0, 0);
            for (int k = 0; k < many; k++) {
                x.step(0, CATCH, k == 16 ? 0 : 1 + k % 6, 0, 0);
                x.step(0, END, 0, 0, 0);
            }
            x.step(0, LAST, 0, 0, 0);
            x.step(0, ADD, 3, 1, 0);
            x.step(0, END, 0, 0, 0);
            Check.due("none is for it, or the last: " + many, x.run(0), many == 17 ? 0 : STATE);
            Check.due("LAST is done behind that", x.ran(5) * 10 + x.ran(4), many == 17 ? 11 : 10);
        }
    }

    private static void looksWhetherAbove0() {
        for (long stock : new long[] {0, 1, -1, Long.MAX_VALUE, Long.MIN_VALUE}) {
            GlassHouse x = new GlassHouse();
            x.setStock(0, stock);
            Check.due("IF", runOf(x, s(IF, 0), s(ADD, 1, 1), s(END)), 0);
            Check.due("above 0", x.stock(1), stock > 0 ? 1 : 0);
            Check.due("steps", x.ran(1), stock > 0 ? 2 : 1);
            Check.due("LOOP", runOf(x, s(LOOP, 0), s(ADD, 2, 1), s(OVER, 0, LEAST), s(END)), 0);
            Check.due("above 0", x.stock(2), stock > 0 ? 1 : 0);
        }
        for (int n : new int[] {0, 1, 2, 149}) {
            GlassHouse x = new GlassHouse();
            x.setStock(0, n);
            Check.due("again and again", runOf(x, s(LOOP, 0), s(ADD, 0, -1), s(END)), 0);
            Check.due("each time that it looks", x.ran(1), 2 * n + 1);
        }
        GlassHouse x = new GlassHouse();
        x.setStock(0, 150);
        Check.due("150 times", runOf(x, s(LOOP, 0), s(ADD, 0, -1), s(END)), SPENT);
        Check.due("none is left", x.stock(0), 0);
    }

    private static void nestsAsDeepAsMayBe() {
        GlassHouse x = new GlassHouse();
        for (int plan = 0; plan < 4; plan++) {
            for (int i = 0; i < 19; i++) x.step(plan, HOLD, i % 3, 0, 0);
            x.step(plan, DO, plan < 3 ? plan + 1 : 3, 0, 0);
            for (int i = 0; i < 19; i++) x.step(plan, END, 0, 0, 0);
        }
        Check.due("within six other DOs: OWN 99", x.run(0), OWN);
        ran(x, "seven plans of 19 in one another", 0, 7 * 20, 19, 0, 0, 0, 7 * 19, 99, 1);
        for (int v = 0; v < 3; v++) Check.due("HELD", x.valve(v, 1), 0);
        for (int plan = 0; plan < 4; plan++) x.drop(plan);
        for (int i = 0; i < 20; i++) x.step(3, i % 2 == 0 ? TRY : KEEP, 0, 0, 0);
        for (int i = 0; i < 20; i++) x.step(3, END, 0, 0, 0);
        for (int plan = 0; plan < 3; plan++) plan(x, plan, s(HOLD, 0), s(DO, plan + 1), s(END), s(DO, plan + 1));
        Check.due("well", x.run(0), 0);
        Check.due("steps: 7 plans of 3, 8 of 20", x.ran(1), 7 * 3 + 8 * 20);
        Check.due("deep", x.ran(6), 3);
    }

    /** The plan's first steps use up 299 or 300; what follows is the next one. */
    private static int[][] behind(boolean all, int[]... next) {
        int[][] steps = new int[next.length + (all ? 4 : 3)][];
        steps[0] = s(LOOP, 0);
        steps[1] = s(ADD, 0, -1);
        steps[2] = s(END);
        if (all) steps[3] = s(ADD, 1, 0);
        System.arraycopy(next, 0, steps, all ? 4 : 3, next.length);
        return steps;
    }

    private static void countsEachStepThatBegins() {
        int[][][] last = {{s(ADD, 5, 1)}, {s(OVER, 5, 1)}, {s(LAY, 0, 0, 1)}, {s(READ, 0, 0, 5)}, {s(WRITE, 1, 1)}, {s(ASK, 2, 3, 5)}, {s(FAIL, 1)},
            {s(ANSWER, 1)}, {s(WAKE, 0)}, {s(DO, 1)}, {s(HOLD, 0), s(END)}, {s(TAKE, 4, 1), s(END)}, {s(OPEN, 2, 8, 9), s(END)}, {s(KEEP), s(END)},
            {s(AGAIN, 1), s(END)}, {s(TRY), s(END), s(CATCH, 0), s(END), s(LAST), s(END)}, {s(IF, 4), s(END)}, {s(LOOP, 3), s(END)}};
        int[] want = {0, 0, 0, 0, 0, 0, OWN, 1, STATE, 0, 0, 0, 0, 0, 0, 0, 0, 0};
        for (int i = 0; i < last.length; i++) {
            GlassHouse x = yard();
            x.setStock(4, 1);
            x.setStock(0, 149);
            Check.due("the 300th is " + last[i][0][0], runOf(x, behind(false, last[i])), want[i]);
            Check.due("counts", x.ran(1), 300);
            x = yard();
            x.setStock(4, 1);
            x.setStock(0, 149);
            Check.due("the 301st is " + last[i][0][0], runOf(x, behind(true, last[i])), SPENT);
            ran(x, "not counted, nothing is done", 0, 300, NONE, 0, 0, 0, 0, 0, 0);
            Check.due("no FAULT", x.fault() + x.told(2), 0);
            Check.due("nothing more", x.stock(5) + x.get(0, 4, 0) + x.field(1, 4) + x.valve(2, 0), 0);
            Check.due("stay as they are", x.stock(0) * 10 + x.stock(4), 1);
        }
    }

    private static void isSpentWithThe301st() {
        GlassHouse x = yard();
        x.setStock(0, 149);
        Check.due("ENDs behind the 300th do not count", runOf(x, s(KEEP), s(HOLD, 0), s(LOOP, 0), s(ADD, 0, -1), s(END), s(END), s(END)), SPENT);
        x.setStock(0, 148);
        Check.due("ENDs behind the 299th do not count", runOf(x, s(KEEP), s(HOLD, 0), s(LOOP, 0), s(ADD, 0, -1), s(END), s(END), s(END)), 0);
        Check.due("steps", x.ran(1), 2 + 297);
        x.setStock(0, 149);
        Check.due("a CATCH behind the 300th", runOf(x, s(LOOP, 0), s(ADD, 0, -1), s(END), s(TRY), s(FAIL, 1), s(END), s(CATCH, 0), s(END)), SPENT);
        x.setStock(0, 148);
        x.setStock(1, 0);
        Check.due("CATCH and LAST do not count", runOf(x, s(LOOP, 0), s(ADD, 0, -1), s(END), s(TRY), s(FAIL, 1), s(END), s(CATCH, 0), s(END), s(LAST),
            s(ADD, 1, 1), s(END)), 0);
        ran(x, "300", 0, 300, NONE, 0, 1, 1, 0, 0, 1);
        x.setStock(0, 148);
        Check.due("one more in LAST", runOf(x, s(LOOP, 0), s(ADD, 0, -1), s(END), s(TRY), s(FAIL, 1), s(END), s(LAST), s(ADD, 1, 1), s(ADD, 1, 1), s(END)),
            SPENT);
        ran(x, "the FAULT does not go out", 0, 300, NONE, 0, 0, 1, 0, 0, 1);
        Check.due("what LAST did stays", x.stock(1), 2);
        Check.due("fault() is of none that went out", x.fault(), 0);
        Check.due("but they came", x.told(2), 2);
    }

    private static void isSpentWithinAgain() {
        for (int used = 297; used <= 299; used++) {
            GlassHouse x = yard();
            x.setStock(0, (used - 1) / 2);
            int[][] more = used % 2 == 1 ? new int[][] {} : new int[][] {s(ADD, 1, 0)};
            int[][] steps = new int[3 + more.length + 5][];
            steps[0] = s(LOOP, 0);
            steps[1] = s(ADD, 0, -1);
            steps[2] = s(END);
            if (more.length > 0) steps[3] = more[0];
            int at = 3 + more.length;
            steps[at] = s(AGAIN, 9);
            steps[at + 1] = s(FAIL, 2);
            steps[at + 2] = s(END);
            steps[at + 3] = s(ADD, 2, 1);
            steps[at + 4] = s(ADD, 2, 1);
            Check.due(used + " steps ahead of AGAIN", runOf(x, steps), SPENT);
            // 297: AGAIN, FAIL, AGAIN are 300; 298: AGAIN, FAIL are; 299: AGAIN is
            ran(x, "AGAIN each time", 0, 300, NONE, 0, 0, 0, 0, 0, used == 299 ? 0 : 1);
            Check.due("told", x.told(2), used == 299 ? 0 : 1);
        }
    }

    private static void isSpentOnEveryWay() {
        int[][] heads = {s(TRY), s(KEEP), s(AGAIN, 9), s(IF, 5), s(LOOP, 5), s(HOLD, 1)};
        for (int[] head : heads) {
            GlassHouse x = yard();
            x.setStock(5, 1);
            x.setStock(4, 9);
            Check.due("SPENT within " + head[0], runOf(x, s(OPEN, 0, 1, 2), s(TAKE, 4, 9), head, s(LAY, 0, 7, 7), s(WRITE, 1, 6), s(LOOP, 5),
                s(ADD, 2, 1), s(END), s(END), s(END), s(END)), SPENT);
            ran(x, "SPENT", 0, 300, NONE, 0, 0, 0, head[0] == HOLD ? 1 : 0, 0, 0);
            Check.due("CELLS stay", x.get(0, 4, 7), 7);
            Check.due("CARDS stay", x.field(1, 4), 6);
            Check.due("STOCK stays, and what was taken is back", x.stock(4) * 1000 + x.stock(2), 9000 + (300 - 5) / 2);
            Check.due("PLACE is given back", x.valve(0, 0), 2);
            Check.due("none is HELD", x.valve(1, 1), 0);
        }
        GlassHouse x = yard();
        x.setStock(5, 1);
        Check.due("in a CATCH", runOf(x, s(TRY), s(FAIL, 4), s(END), s(CATCH, 0), s(LOOP, 5), s(END), s(END), s(LAST), s(LAY, 0, 0, 1), s(END)), SPENT);
        ran(x, "LAST is not done", 0, 300, NONE, 0, 1, 0, 0, 0, 1);
        Check.due("so", x.get(0, 4, 0), 0);
        Check.due("through DOs", runOf(x, s(HOLD, 0), s(DO, 1), s(END)), 0);
        plan(x, 1, s(HOLD, 1), s(LOOP, 5), s(ADD, 0, 1), s(END), s(END));
        Check.due("through DOs", x.run(0), SPENT);
        Check.due("all given back", x.valve(0, 1) + x.valve(1, 1), 0);
        Check.due("deep", x.ran(6), 2);
        Check.due("the next RUN begins anew", runOf(x, s(ADD, 3, 1)) + x.ran(1), 1);
    }

    private static void givesBackOnTheWayOfALast() {
        GlassHouse x = yard();
        x.setStock(0, 4);
        // HOLD within LAST, left by an ANSWER in place of a FAULT
        Check.due("ANSWER", runOf(x, s(TRY), s(FAIL, 1), s(END), s(LAST), s(HOLD, 0), s(TAKE, 0, 4), s(ANSWER, 9), s(END), s(END), s(END)), 1);
        Check.due("given back", x.valve(0, 1) * 10 + x.stock(0), 4);
        ran(x, "in place of the FAULT", 9, 5, NONE, 0, 0, 1, 1, 0, 1);
        Check.due("no FAULT went out", x.fault(), 0);
        Check.due("an empty LAST", runOf(x, s(TRY), s(FAIL, 1), s(END), s(LAST), s(END)), OWN);
        ran(x, "is done, too", 0, 2, 1, 0, 0, 1, 0, 1, 1);
        Check.due("LAST of an empty TRY", runOf(x, s(TRY), s(END), s(LAST), s(ADD, 1, 1), s(END)) + x.stock(1), 1);
        Check.due("a KEEP within LAST", runOf(x, s(TRY), s(ADD, 2, 1), s(ANSWER, 1), s(END), s(LAST), s(KEEP), s(ADD, 2, 1), s(FAIL, 3), s(END), s(END)), OWN);
        ran(x, "a FAULT in place of an ANSWER has no CAUSE", 0, 6, 7, 0, 0, 1, 0, 3, 1);
        Check.due("a RUN is as KEEP", x.stock(2), 0);
    }

    private static void asksInARun() {
        GlassHouse x = yard();
        x.plant(4, 0, 1, 1, 0, 0);
        x.plant(5, 5, 1, 1, 0, 0);
        x.plant(6, 3, 0, 1, 0, 0);
        Check.due("it does not THIRST", runOf(x, s(ASK, 4, 1, 0)), -14);
        Check.due("it does not COST", runOf(x, s(ASK, 5, 2, 0)), -14);
        Check.due("ZERO", runOf(x, s(ASK, 6, 2, 0)), ZERO);
        Check.due("of a RUN's ASK, too", x.trace(0) * 1000 + x.trace(1) * 10 + x.trace(2), 21200 - 1);
        Check.due("a ROW", runOf(x, s(ASK, 0, 0, 0)), -14);
        Check.due("leaves none", x.trace(0), NONE);
        Check.due("what it tells, with its sign", runOf(x, s(ASK, 5, 1, 5)) + x.stock(5), 1);
        x.plant(5, 5, 1, LEAST, 0, 0);
        Check.due("what it tells, with its sign", runOf(x, s(ASK, 5, 1, 5)) + x.stock(5), LEAST);
        Check.due("answer() is not told", x.answer(), 0);
    }

    private static void hasStockAndValves() {
        GlassHouse x = new GlassHouse();
        for (int k = 0; k < 6; k++) Check.due("0 at first", x.stock(k), 0);
        for (int k = 0; k < 6; k++) Check.due("STOCK k becomes v", x.setStock(k, k % 2 == 0 ? Long.MAX_VALUE - k : Long.MIN_VALUE + k), 1);
        for (int k = 0; k < 6; k++) Check.due("STOCK k", x.stock(k), k % 2 == 0 ? Long.MAX_VALUE - k : Long.MIN_VALUE + k);
        for (int k : new int[] {-1, 6, LEAST, MOST}) Check.due("BAD", x.setStock(k, 1) * 10 + x.stock(k), BAD * 10);
        for (int v = 0; v < 3; v++) Check.due("PLACE 0, not HELD", x.valve(v, 0) + x.valve(v, 1), 0);
        Check.due("OPEN", runOf(x, s(OPEN, 0, 1, 7), s(OPEN, 2, 1, 9), s(END), s(END)), 0);
        Check.all("PLACES", new long[] {x.valve(0, 0), x.valve(1, 0), x.valve(2, 0)}, 7, 0, 9);
        for (int v : new int[] {-1, 3, LEAST, MOST}) Check.due("0: BAD", x.valve(v, 0) + x.valve(v, 1), 0);
        for (int what : new int[] {-1, 2, LEAST, MOST}) Check.due("0: BAD", x.valve(0, what), 0);
        for (int plan : new int[] {-1, 4, LEAST, MOST}) {
            Check.all("PLANS 0 .. 3", new long[] {x.step(plan, 1, 0, 0, 0), x.drop(plan), x.formed(plan), x.run(plan)}, BAD, BAD, 0, BAD);
        }
        Check.due("NO: not WELL FORMED", runOf(x, s(HOLD, 0)), NO);
        for (int what : new int[] {-1, 9, LEAST, MOST}) Check.due("ran", x.ran(what), BAD);
    }
}
