/** Promises 32 to 39: steps, plans, runs, stock, valves, by runs that are told out. */
public final class ActsTest {
    private static final int BAD = GlassHouse.BAD, NONE = GlassHouse.NONE, NO = GlassHouse.NO, FULL = GlassHouse.FULL;
    private static final int END = 0, ADD = 1, OVER = 2, LAY = 3, READ = 4, WRITE = 5, ASK = 6, FAIL = 7, ANSWER = 8;
    private static final int WAKE = 9, DO = 10, HOLD = 11, TAKE = 12, OPEN = 13, KEEP = 14, AGAIN = 15, TRY = 16;
    private static final int CATCH = 17, LAST = 18, IF = 19, LOOP = 20;

    public static void main(String[] args) {
        takesSteps();
        tellsWhatIsFormed();
        refusesRuns();
        doesPlainSteps();
        faultsOfPlainSteps();
        givesBackOnEveryWay();
        keeps();
        triesAgain();
        catchesAndLasts();
        tellsCauses();
        doesPlans();
        spends();
        spendsInBodies();
        keepsStockAndValves();
        Check.end();
    }

    private static void takesSteps() {
        GlassHouse x = new GlassHouse();
        for (int i = 0; i < 40; i++) Check.due("step", x.step(3, i % 21, i, -i, 7), i);
        Check.due("the 41st", x.step(3, 1, 0, 0, 0), FULL);
        Check.due("BAD ahead of FULL", x.step(3, 21, 0, 0, 0), BAD);
        Check.all("bad", new long[] {x.step(4, 1, 0, 0, 0), x.step(-1, 1, 0, 0, 0), x.step(0, -1, 0, 0, 0)}, BAD, BAD, BAD);
        Check.due("steps", x.told(9), 40);
        x.step(0, 1, 0, 0, 0);
        Check.due("steps", x.told(9), 41);
        Check.due("drop", x.drop(3), 40);
        Check.due("drop none", x.drop(3), 0);
        Check.due("drop bad", x.drop(4), BAD);
        Check.due("drop bad", x.drop(-1), BAD);
        Check.due("steps", x.told(9), 1);
        Check.due("anew", x.step(3, 1, 0, 0, 0), 0);
    }

    private static void tellsWhatIsFormed() {
        int[][] plans = {{}, {END}, {ADD, END}, {HOLD}, {HOLD, END}, {HOLD, END, END}, {CATCH, END}, {LAST, END}, {TRY, END},
            {TRY, END, CATCH, END, CATCH, END, LAST, END}, {TRY, END, LAST, END, CATCH, END}, {TRY, END, LAST, END, LAST, END},
            {TRY, END, ADD, CATCH, END}, {TRY, CATCH, END, END}, {HOLD, END, CATCH, END}, {TRY, END, CATCH, HOLD, END},
            {TRY, END, CATCH, TRY, END, LAST, END, END, LAST, END}, {KEEP, AGAIN, TAKE, OPEN, IF, LOOP, END, END, END, END, END},
            {TRY, TRY, END, END, CATCH, END}, {TRY, HOLD, END, CATCH, END}};
        int[] want = {NONE, 0, 1, 1, NONE, 2, 0, 0, NONE, NONE, 4, 4, 3, 1, 2, 5, NONE, 11, NONE, 3};
        for (int i = 0; i < plans.length; i++) {
            GlassHouse x = new GlassHouse();
            for (int op : plans[i]) x.step(1, op, 0, 0, 0);
            Check.due("plan " + i, x.formed(1), want[i]);
            if (want[i] != NONE) Check.due("its run", x.run(1), NO);
        }
        GlassHouse x = new GlassHouse();
        Check.due("bad", x.formed(4), 0);
        Check.due("bad", x.formed(-1), 0);
    }

    private static void refusesRuns() {
        GlassHouse x = new GlassHouse();
        Check.due("empty", x.run(0), 0);
        Check.due("bad", x.run(4), BAD);
        Check.due("bad", x.run(-1), BAD);
        plan(x, 0, s(FAIL, 4));
        Check.due("FAIL", x.run(0), -18);
        plan(x, 1, s(END));
        Check.due("not formed", x.run(1), NO);
        ran(x, 0, 1, 0, 0, 0, 0, 0, 4, 1);
        Check.due("ran 9", x.ran(9), BAD);
        Check.due("ran -1", x.ran(-1), BAD);
        plan(x, 2, s(FAIL, 0));
        Check.due("OWN with number 0", x.run(2), -18);
        ran(x, 0, 1, 0, 0, 0, 0, 0, 0, 1);
    }

    private static void doesPlainSteps() {
        GlassHouse x = yard();
        x.setStock(1, Long.MAX_VALUE);
        x.setStock(2, -17);
        plan(x, 0, s(ADD, 1, 1), s(OVER, 2, 5), s(LAY, 0, 3, -9), s(READ, 0, 3, 3), s(WRITE, 1, 12), s(ASK, 2, 0, 4),
            s(ASK, 2, 3, 5), s(ANSWER, -5), s(FAIL, 1));
        Check.due("run", x.run(0), 1);
        ran(x, -5, 8, NONE, 0, 0, 0, 0, 0, 0);
        Check.all("stock", stock(x), 0, Long.MIN_VALUE, -3, -9, 2 * 4 + 3, 7);
        Check.due("cell", x.get(0, 4, 3), -9);
        Check.due("card", x.field(1, 4), 12);
        Check.due("trace of the last ask", x.trace(0), 30);
        Check.due("no fault", x.fault(), 0);
        x.setStock(0, Long.MIN_VALUE);
        plan(x, 0, s(OVER, 0, -1));
        Check.due("wraps", x.run(0), 0);
        Check.due("so", x.stock(0), Long.MIN_VALUE);
    }

    private static void faultsOfPlainSteps() {
        int[][] steps = {
            s(ADD, 6, 1), s(ADD, -1, 1), s(OVER, 6, 0), s(OVER, 0, 0), s(LAY, 16, 0, 0), s(LAY, 0, 4, 0), s(LAY, 0, -1, 0),
            s(LAY, 1, 0, 0), s(LAY, 9, 0, 0), s(READ, -1, 0, 0), s(READ, 0, 0, 6), s(READ, 1, 0, 6), s(READ, 3, 0, 0),
            s(READ, 9, 9, 0), s(WRITE, 16, 0), s(WRITE, 0, 0), s(WRITE, 9, 0), s(ASK, 16, 0, 0), s(ASK, 2, 4, 0),
            s(ASK, 2, -1, 0), s(ASK, 2, 0, 6), s(ASK, 0, 0, 0), s(ASK, 9, 0, 0), s(ASK, 4, 1, 0), s(ASK, 5, 0, 0),
            s(ASK, 9, 4, 0), s(WAKE, 3), s(WAKE, 0), s(DO, 4), s(DO, -1)};
        int[] want = {2, 2, 2, 6, 2, 2, 2, 4, 1, 2, 2, 2, 4, 1, 2, 4, 1, 2, 2, 2, 2, 4, 1, 4, 6, 2, 2, 7, 2, 2};
        for (int i = 0; i < steps.length; i++) {
            GlassHouse x = yard();
            x.ask(2, 3);
            plan(x, 0, s(ADD, 5, 1), steps[i]);
            Check.due("step " + i, x.run(0), -10 - want[i]);
            ran(x, 0, 2, 1, 0, 0, 0, 0, 0, 1);
            Check.due("fault", x.fault(), want[i]);
            Check.due("nothing changes", x.stock(5), 0);
            Check.due("one fault", x.told(2), 1);
        }
        int[][] bodies = {s(HOLD, 3), s(HOLD, -1), s(TAKE, 6, 0), s(TAKE, 6, -1), s(OPEN, 3, 0, 0), s(IF, 6), s(LOOP, -1),
            s(TAKE, 0, 1), s(TAKE, 0, -1), s(AGAIN, 0), s(AGAIN, 10)};
        int[] own = {0, 0, 0, 0, 0, 0, 0, 97, 97, 96, 96};
        for (int i = 0; i < bodies.length; i++) {
            GlassHouse x = yard();
            plan(x, 0, bodies[i], s(ADD, 0, 1), s(END));
            Check.due("body " + i, x.run(0), own[i] == 0 ? -12 : -18);
            ran(x, 0, 1, 0, 0, 0, 0, 0, own[i], 1);
        }
    }

    private static void givesBackOnEveryWay() {
        int[][] inner = {s(ADD, 3, 1), s(FAIL, 3), s(ANSWER, 3), s(LOOP, 4)};
        int[] want = {0, -18, 1, -30};
        for (int i = 0; i < inner.length; i++) {
            GlassHouse x = yard();
            x.setStock(0, 10);
            x.setStock(4, 1);
            boolean loop = inner[i][0] == LOOP;
            plan(x, 0, s(HOLD, 0), s(HOLD, 2), s(HOLD, 2), s(TAKE, 0, 4), s(OPEN, 1, 5, 6), s(LAY, 0, 0, 1), s(READ, 0, 0, 2),
                inner[i], loop ? s(END) : s(ADD, 5, 1), s(END), s(END), s(END), s(END), s(END));
            Check.due("run " + i, x.run(0), want[i]);
            Check.due("taken is given back", x.stock(0), 10);
            Check.due("the valve's place", x.valve(1, 0), 6);
            for (int v = 0; v < 3; v++) Check.due("none is held", x.valve(v, 1), 0);
            Check.due("held together", x.ran(6), 3);
            Check.due("the cell", x.get(0, 4, 0), want[i] == -18 ? 0 : 1);
            Check.due("the stock", x.stock(2), want[i] == -18 ? 0 : 1);
            Check.due("behind it", x.stock(5), want[i] == 0 ? 1 : 0);
        }
    }

    private static void keeps() {
        GlassHouse x = yard();
        x.setStock(0, 9);
        plan(x, 0, s(LAY, 0, 0, 1), s(ADD, 1, 1), s(TRY), s(TAKE, 0, 5), s(KEEP), s(LAY, 0, 0, 2), s(LAY, 0, 0, 3),
            s(WRITE, 1, 8), s(ADD, 1, 10), s(TAKE, 0, 4), s(OPEN, 0, 1, 2), s(FAIL, 1), s(END), s(END), s(END), s(END), s(END),
            s(CATCH, 8), s(END), s(KEEP), s(ADD, 2, 5), s(END), s(KEEP), s(ADD, 3, 6), s(ANSWER, 4), s(END));
        Check.due("run", x.run(0), 1);
        Check.all("stock", stock(x), 9, 1, 5, 6, 0, 0);
        Check.due("cell as ahead", x.get(0, 4, 0), 1);
        Check.due("card as ahead", x.field(1, 4), 0);
        Check.due("the place is no such thing", x.valve(0, 0), 2);
        plan(x, 1, s(ADD, 1, 1), s(WRITE, 1, 9), s(OPEN, 0, 7, 8), s(FAIL, 1), s(END));
        Check.due("a run is as KEEP", x.run(1), -18);
        Check.due("stock", x.stock(1), 1);
        Check.due("card", x.field(1, 4), 0);
        Check.due("but for places", x.valve(0, 0), 8);
    }

    private static void triesAgain() {
        GlassHouse x = yard();
        x.setStock(0, 1);
        plan(x, 0, s(AGAIN, 3), s(ADD, 1, 1), s(LAY, 0, 0, 5), s(FAIL, 2), s(END));
        Check.due("three times", x.run(0), -18);
        ran(x, 0, 12, 3, 0, 0, 0, 0, 2, 3);
        Check.due("as ahead", x.stock(1) + x.get(0, 4, 0), 0);
        plan(x, 0, s(AGAIN, 9), s(ADD, 1, 1), s(END), s(ADD, 2, 1));
        Check.due("once, without a fault", x.run(0), 0);
        ran(x, 0, 3, NONE, 0, 0, 0, 0, 0, 0);
        Check.due("kept", x.stock(1), 1);
        plan(x, 0, s(AGAIN, 1), s(OVER, 0, 0), s(END));
        Check.due("one time", x.run(0), -16);
        ran(x, 0, 2, 1, 0, 0, 0, 0, 0, 1);
        plan(x, 0, s(TRY), s(AGAIN, 2), s(FAIL, 1), s(END), s(END), s(CATCH, 0), s(END), s(TRY), s(AGAIN, 4), s(ANSWER, 6), s(END),
            s(END), s(LAST), s(END));
        Check.due("caught, then an answer", x.run(0), 1);
        ran(x, 6, 8, NONE, 0, 1, 1, 0, 0, 2);
    }

    private static void catchesAndLasts() {
        GlassHouse x = yard();
        plan(x, 0, s(TRY), s(OVER, 0, 0), s(END), s(CATCH, 2), s(ADD, 1, 1), s(END), s(CATCH, 6), s(ADD, 2, 1), s(END),
            s(CATCH, 0), s(ADD, 3, 1), s(END), s(LAST), s(ADD, 4, 1), s(END), s(ADD, 5, 1));
        Check.due("the first that is for it", x.run(0), 0);
        Check.all("stock", stock(x), 0, 0, 1, 0, 1, 1);
        ran(x, 0, 5, NONE, 0, 1, 1, 0, 0, 1);
        Check.due("no fault went out", x.fault(), 0);
        Check.due("but one arose", x.told(2), 1);
        plan(x, 0, s(TRY), s(FAIL, 7), s(END), s(CATCH, 1), s(END), s(CATCH, 9), s(END), s(CATCH, -1), s(END), s(LAST), s(ADD, 0, 1),
            s(END));
        Check.due("none is for it", x.run(0), -18);
        ran(x, 0, 3, 1, 0, 0, 1, 0, 7, 1);
        plan(x, 0, s(TRY), s(ANSWER, 3), s(END), s(CATCH, 0), s(END), s(LAST), s(ADD, 0, 1), s(END));
        Check.due("an answer is not met", x.run(0), 1);
        ran(x, 3, 3, NONE, 0, 0, 1, 0, 0, 0);
        Check.due("LAST was done", x.stock(0), 1);
        plan(x, 0, s(TRY), s(FAIL, 3), s(END), s(LAST), s(ANSWER, 4), s(END));
        Check.due("an answer in place of a fault", x.run(0), 1);
        ran(x, 4, 3, NONE, 0, 0, 1, 0, 0, 1);
        plan(x, 0, s(TRY), s(ANSWER, 3), s(END), s(LAST), s(FAIL, 4), s(END));
        Check.due("a fault in place of an answer", x.run(0), -18);
        ran(x, 0, 3, 4, 0, 0, 1, 0, 4, 1);
        plan(x, 0, s(TRY), s(ANSWER, 3), s(END), s(LAST), s(ANSWER, 4), s(END));
        Check.due("an answer in place of another", x.run(0), 1);
        ran(x, 4, 3, NONE, 0, 0, 1, 0, 0, 0);
        plan(x, 0, s(TRY), s(END), s(CATCH, 0), s(ADD, 0, 1), s(END), s(ADD, 1, 1));
        Check.due("no fault, no catch", x.run(0), 0);
        ran(x, 0, 2, NONE, 0, 0, 0, 0, 0, 0);
        plan(x, 0, s(HOLD, 0), s(TRY), s(HOLD, 1), s(FAIL, 1), s(END), s(END), s(CATCH, 8), s(WAKE, 1), s(END), s(END));
        Check.due("given back ahead of the catch", x.run(0), -17);
        ran(x, 0, 5, 7, 8, 1, 0, 2, 0, 2);
    }

    private static void tellsCauses() {
        GlassHouse x = yard();
        plan(x, 0, s(TRY), s(OVER, 0, 0), s(END), s(CATCH, 6), s(WAKE, 0), s(END), s(LAST), s(END));
        Check.due("out of a catch", x.run(0), -17);
        Check.due("the one it met", x.ran(3), 6);
        plan(x, 0, s(TRY), s(OVER, 0, 0), s(END), s(LAST), s(WAKE, 0), s(END));
        Check.due("out of LAST", x.run(0), -17);
        Check.due("the one that went", x.ran(3), 6);
        plan(x, 0, s(TRY), s(OVER, 0, 0), s(END), s(CATCH, 0), s(END), s(LAST), s(WAKE, 0), s(END));
        Check.due("out of LAST, with none on its way", x.run(0), -17);
        Check.due("none", x.ran(3), 0);
        plan(x, 0, s(TRY), s(OVER, 0, 0), s(END), s(CATCH, 6), s(WAKE, 0), s(END), s(LAST), s(ADD, 9, 9), s(END));
        Check.due("out of LAST, in place of a catch's", x.run(0), -12);
        Check.due("the catch's", x.ran(3), 7);
        plan(x, 0, s(TRY), s(TRY), s(OVER, 0, 0), s(END), s(LAST), s(WAKE, 0), s(END), s(END), s(CATCH, 7), s(FAIL, 2), s(END));
        Check.due("met outside", x.run(0), -18);
        Check.due("the one met", x.ran(3), 7);
        plan(x, 0, s(TRY), s(TRY), s(OVER, 0, 0), s(END), s(LAST), s(WAKE, 0), s(END), s(END), s(LAST), s(ADD, 0, 1), s(END));
        Check.due("through a LAST that ends", x.run(0), -17);
        Check.due("keeps its cause", x.ran(3), 6);
        Check.due("and its place", x.ran(2), 5);
    }

    private static void doesPlans() {
        GlassHouse x = yard();
        plan(x, 0, s(DO, 1), s(DO, 1), s(ADD, 0, 1));
        plan(x, 1, s(ADD, 0, 10), s(DO, 2));
        plan(x, 2, s(HOLD, 1), s(ADD, 0, 100), s(END));
        Check.due("one in another", x.run(0), 0);
        Check.due("stock", x.stock(0), 221);
        Check.due("steps", x.ran(1), 11);
        plan(x, 2, s(ADD, 0, 0), s(ADD, 0, 0), s(FAIL, 5));
        Check.due("a fault within", x.run(0), -18);
        ran(x, 0, 6, 2, 0, 0, 0, 0, 5, 1);
        plan(x, 2, s(ADD, 0, 0), s(ANSWER, 5));
        Check.due("an answer within", x.run(0), 1);
        plan(x, 2, s(END));
        Check.due("not well formed", x.run(0), -18);
        ran(x, 0, 3, 1, 0, 0, 0, 0, 98, 1);
        plan(x, 0, s(DO, 0));
        Check.due("seven in one another", x.run(0), -18);
        ran(x, 0, 7, 0, 0, 0, 0, 0, 99, 1);
        x.setStock(1, 6);
        plan(x, 0, s(ADD, 1, -1), s(IF, 1), s(DO, 0), s(END));
        Check.due("six are not too many", x.run(0), 0);
        Check.due("stock", x.stock(1), 0);
        x.setStock(1, 7);
        Check.due("six DOs", x.run(0), 0);
        x.setStock(1, 8);
        Check.due("one more", x.run(0), -18);
        Check.due("number", x.ran(7), 99);
        plan(x, 0, s(DO, 2), s(DO, 2));
        plan(x, 2);
        for (int i = 0; i < 10; i++) x.step(0, DO, 2, 0, 0);
        Check.due("one behind another is not in another", x.run(0), 0);
    }

    private static void spends() {
        GlassHouse x = yard();
        x.setStock(0, 1);
        plan(x, 0, s(LOOP, 0), s(ADD, 1, 1), s(LAY, 0, 0, 7), s(END));
        Check.due("spent", x.run(0), -30);
        ran(x, 0, 300, NONE, 0, 0, 0, 0, 0, 0);
        Check.due("all stays as it is", x.stock(1), 100);
        Check.due("cell", x.get(0, 4, 0), 7);
        Check.due("no fault", x.fault(), 0);
        x.setStock(1, 99);
        plan(x, 0, s(LOOP, 1), s(ADD, 1, -1), s(OVER, 0, 1), s(END), s(ADD, 2, 1), s(ADD, 2, 1));
        Check.due("300 are allowed", x.run(0), 0);
        Check.due("steps", x.ran(1), 300);
        x.setStock(1, 99);
        x.step(0, ADD, 2, 1, 0);
        Check.due("301 are not", x.run(0), -30);
        Check.due("steps", x.ran(1), 300);
        x.setStock(1, 100);
        plan(x, 0, s(LOOP, 1), s(ADD, 1, -1), s(OVER, 0, 1), s(END));
        Check.due("its look is a step", x.run(0), -30);
    }

    private static void spendsInBodies() {
        GlassHouse x = yard();
        x.setStock(0, 1);
        x.setStock(1, 50);
        plan(x, 0, s(TRY), s(KEEP), s(AGAIN, 9), s(TAKE, 1, 8), s(HOLD, 0), s(OPEN, 2, 3, 4), s(WRITE, 1, 6), s(LOOP, 0), s(ADD, 2, 1),
            s(END), s(END), s(END), s(END), s(END), s(END), s(END), s(CATCH, 0), s(ADD, 3, 1), s(END), s(LAST), s(ADD, 4, 1), s(END));
        Check.due("spent", x.run(0), -30);
        ran(x, 0, 300, NONE, 0, 0, 0, 1, 0, 0);
        Check.all("stock", stock(x), 1, 50, 146, 0, 0, 0);
        Check.due("card", x.field(1, 4), 6);
        Check.due("place", x.valve(2, 0), 4);
        Check.due("held", x.valve(0, 1), 0);
        plan(x, 0, s(LOOP, 0), s(AGAIN, 9), s(FAIL, 1), s(END), s(END));
        Check.due("AGAIN ends with its fault", x.run(0), -18);
        Check.due("steps", x.ran(1), 19);
        plan(x, 0, s(LOOP, 0), s(TRY), s(ADD, 5, 1), s(AGAIN, 9), s(ADD, 5, 1), s(FAIL, 1), s(END), s(END), s(CATCH, 0), s(END),
            s(END));
        Check.due("spent at AGAIN's turn", x.run(0), -30);
        // each time round: LOOP, TRY, ADD and nine times AGAIN, ADD, FAIL are 30 steps
        ran(x, 0, 300, NONE, 0, 10, 0, 0, 0, 90);
        Check.due("each kept", x.stock(5), 10);
    }

    private static void keepsStockAndValves() {
        GlassHouse x = new GlassHouse();
        Check.due("set", x.setStock(5, Long.MIN_VALUE), 1);
        Check.due("told", x.stock(5), Long.MIN_VALUE);
        Check.all("bad", new long[] {x.setStock(6, 1), x.setStock(-1, 1), x.stock(6), x.stock(-1)}, BAD, BAD, 0, 0);
        Check.all("bad valves", new long[] {x.valve(3, 0), x.valve(-1, 1), x.valve(0, 2), x.valve(0, -1)}, 0, 0, 0, 0);
        plan(x, 0, s(OPEN, 1, 5, -7), s(END));
        x.run(0);
        Check.due("place", x.valve(1, 0), -7);
        Check.due("no faults", x.told(2), 0);
    }

    /** Bins: 0 four ints, 1 a card, 2 a tomato (4, 3), 3 shorts, 4 a herb, 5 a cress by 0; others nothing. */
    private static GlassHouse yard() {
        GlassHouse x = new GlassHouse();
        x.row(0, 4, 4);
        x.card(1);
        x.plant(2, 1, 4, 3, 0, 0);
        x.row(3, 3, 4);
        x.plant(4, 0, 1, 1, 0, 0);
        x.plant(5, 3, 1, 0, 0, 0);
        return x;
    }

    private static int[] s(int op, int... numbers) {
        int[] step = new int[4];
        step[0] = op;
        System.arraycopy(numbers, 0, step, 1, numbers.length);
        return step;
    }

    private static void plan(GlassHouse x, int plan, int[]... steps) {
        x.drop(plan);
        for (int i = 0; i < steps.length; i++) {
            Check.due("step", x.step(plan, steps[i][0], steps[i][1], steps[i][2], steps[i][3]), i);
        }
    }

    private static void ran(GlassHouse x, long... want) {
        long[] got = new long[9];
        for (int what = 0; what < 9; what++) got[what] = x.ran(what);
        Check.all("ran", got, want);
    }

    private static long[] stock(GlassHouse x) {
        long[] got = new long[6];
        for (int k = 0; k < 6; k++) got[k] = x.stock(k);
        return got;
    }
}
