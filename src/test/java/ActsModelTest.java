import java.util.ArrayList;
import java.util.List;
import java.util.Random;

/**
 * Promises 32 to 39 once more: random plans against a second reading of the document, written as plainly as the library
 * allows: a tree of steps, calls within calls, exceptions for faults, and copies of all for KEEP.
 */
public final class ActsModelTest {
    private static final int END = 0, ADD = 1, OVER = 2, LAY = 3, READ = 4, WRITE = 5, ASK = 6, FAIL = 7, ANSWER = 8;
    private static final int WAKE = 9, DO = 10, HOLD = 11, TAKE = 12, OPEN = 13, KEEP = 14, AGAIN = 15, TRY = 16;
    private static final int CATCH = 17, LAST = 18, IF = 19, LOOP = 20;

    public static void main(String[] args) {
        Random random = new Random(20261116);
        int[] ends = new int[40];
        for (int i = 0; i < 6000; i++) oneHouse(random, ends);
        Check.holds("all kinds of ends came", ends[0] > 50 && ends[1] > 50 && ends[30] > 50);
        for (int kind : new int[] {1, 2, 4, 6, 7, 8}) Check.holds("fault " + kind + " went out", ends[10 + kind] > 20);
        for (int i = 0; i < 20000; i++) onePlanFormed(random);
        Check.end();
    }

    private static void oneHouse(Random random, int[] ends) {
        GlassHouse x = new GlassHouse();
        Model model = new Model();
        x.row(0, 4, 4);
        x.card(1);
        x.plant(2, 1, 4, 3, 0, 0);
        x.row(3, 3, 4);
        x.plant(4, 0, 1, 1, 0, 0);
        x.plant(5, 3, 1, 0, 0, 0);
        x.share(6, 0);
        for (int plan = 0; plan < 4; plan++) {
            List<int[]> steps = new ArrayList<>();
            grow(random, steps, 0, 12 + random.nextInt(20));
            if (random.nextInt(12) == 0 && !steps.isEmpty()) steps.remove(random.nextInt(steps.size()));
            for (int[] s : steps) {
                if (model.plans.get(plan).size() < 40) model.plans.get(plan).add(s);
                x.step(plan, s[0], s[1], s[2], s[3]);
            }
        }
        for (int k = 0; k < 6; k++) {
            model.stock[k] = random.nextInt(12) - 2;
            x.setStock(k, model.stock[k]);
        }
        for (int i = 0; i < 4; i++) compareRun(x, model, i, ends);
    }

    private static void compareRun(GlassHouse x, Model model, int plan, int[] ends) {
        int formed = Model.firstWrong(model.plans.get(plan));
        Check.due("formed", x.formed(plan), formed);
        int before = x.told(2);
        int got = x.run(plan);
        if (formed != -1) {
            Check.due("not formed", got, -3);
            return;
        }
        int want = model.run(plan);
        ends[Math.abs(want)]++;
        Check.due("run", got, want);
        for (int what = 0; what < 9; what++) Check.due("ran " + what, x.ran(what), model.ran[what]);
        for (int k = 0; k < 6; k++) Check.due("stock " + k, x.stock(k), model.stock[k]);
        for (int i = 0; i < 4; i++) Check.due("cell " + i, x.get(0, 4, i), model.cells[i]);
        for (int v = 0; v < 3; v++) {
            Check.due("place " + v, x.valve(v, 0), model.places[v]);
            Check.due("held " + v, x.valve(v, 1), 0);
        }
        Check.due("card", x.field(1, 4), model.card);
        Check.due("faults", x.told(2) - before, model.ran[8]);
        Check.due("fault", x.fault(), model.lastFault);
    }

    /** Adds steps with bodies that have their ends, about as many as told. */
    private static void grow(Random random, List<int[]> steps, int depth, int many) {
        int until = steps.size() + many;
        while (steps.size() < until) {
            int op = 1 + random.nextInt(20);
            if (op == CATCH || op == LAST || op >= HOLD && depth > 6) continue;
            if (op == FAIL && random.nextInt(3) > 0 || op == ANSWER && random.nextInt(4) > 0) continue;
            steps.add(numbers(random, op));
            if (op < HOLD) continue;
            grow(random, steps, depth + 1, random.nextInt(5));
            steps.add(numbers(random, END));
            if (op != TRY) continue;
            for (int i = random.nextInt(random.nextInt(4) == 0 ? 6 : 3); i > 0; i--) {
                steps.add(numbers(random, CATCH));
                grow(random, steps, depth + 1, random.nextInt(3));
                steps.add(numbers(random, END));
            }
            if (random.nextBoolean()) {
                steps.add(numbers(random, LAST));
                grow(random, steps, depth + 1, random.nextInt(3));
                steps.add(numbers(random, END));
            }
        }
    }

    private static int[] numbers(Random random, int op) {
        boolean wild = random.nextInt(25) == 0;
        int stock = wild ? random.nextInt(9) - 1 : random.nextInt(6);
        int valve = wild ? random.nextInt(6) - 1 : random.nextInt(3);
        int bin = wild ? random.nextInt(20) - 2 : random.nextInt(8);
        int small = random.nextInt(8) - 2;
        switch (op) {
            case ADD: case TAKE: case OVER: return new int[] {op, stock, small, 0};
            case IF: case LOOP: return new int[] {op, stock, 0, 0};
            case LAY: return new int[] {op, random.nextInt(4) == 0 ? bin : 0, random.nextInt(12) == 0 ? 4 : random.nextInt(4), small};
            case READ: return new int[] {op, random.nextInt(4) == 0 ? bin : 0, random.nextInt(12) == 0 ? -1 : random.nextInt(4),
                stock};
            case WRITE: return new int[] {op, random.nextInt(4) == 0 ? bin : 1, small, 0};
            case ASK: return new int[] {op, bin, wild ? 4 : random.nextInt(4), random.nextInt(6)};
            case HOLD: case WAKE: return new int[] {op, valve, 0, 0};
            case OPEN: return new int[] {op, valve, small, small + 100};
            case DO: return new int[] {op, wild ? 4 : random.nextInt(4), 0, 0};
            case AGAIN: return new int[] {op, wild ? 10 : random.nextInt(4), 0, 0};
            case CATCH: return new int[] {op, random.nextInt(3) == 0 ? 0 : 1 + random.nextInt(8), 0, 0};
            default: return new int[] {op, small, 0, 0};
        }
    }

    private static void onePlanFormed(Random random) {
        GlassHouse x = new GlassHouse();
        List<int[]> steps = new ArrayList<>();
        int[] likely = {END, END, END, ADD, TRY, TRY, CATCH, CATCH, LAST, KEEP};
        for (int i = random.nextInt(12); i > 0; i--) steps.add(new int[] {likely[random.nextInt(likely.length)], 0, 0, 0});
        for (int[] s : steps) x.step(0, s[0], 0, 0, 0);
        Check.due("formed", x.formed(0), Model.firstWrong(steps));
    }

    private static final class Node {
        int[] step;
        int place;
        List<Node> body = new ArrayList<>();
        List<Node> catches = new ArrayList<>();
        Node last;
    }

    private static final class Wrong extends Exception {
        private static final long serialVersionUID = 1;
        final int place;

        Wrong(int place) {
            this.place = place;
        }
    }

    private static final class Fault extends Exception {
        private static final long serialVersionUID = 1;
        final int kind;
        final int place;
        final int own;
        int cause;

        Fault(int kind, int place, int own) {
            this.kind = kind;
            this.place = place;
            this.own = own;
        }
    }

    private static final class Answer extends Exception {
        private static final long serialVersionUID = 1;
        final int number;

        Answer(int number) {
            this.number = number;
        }
    }

    private static final class Spent extends Error {
        private static final long serialVersionUID = 1;
    }

    private static final class Model {
        final List<List<int[]>> plans = new ArrayList<>();
        long[] stock = new long[6];
        int[] cells = new int[4];
        int card;
        final int[] places = new int[3];
        final int[] held = new int[3];
        int[] ran = {0, 0, -1, 0, 0, 0, 0, 0, 0};
        int lastFault;
        private int at;
        private int dos;

        Model() {
            for (int i = 0; i < 4; i++) plans.add(new ArrayList<>());
        }

        static int firstWrong(List<int[]> steps) {
            try {
                Model parser = new Model();
                parser.parse(steps, true);
                return -1;
            } catch (Wrong wrong) {
                return wrong.place;
            }
        }

        /** The steps up to the END that stands for the body (outermost: up to the last one). */
        private List<Node> parse(List<int[]> steps, boolean outermost) throws Wrong {
            List<Node> nodes = new ArrayList<>();
            while (true) {
                if (at == steps.size()) {
                    if (outermost) return nodes;
                    throw new Wrong(steps.size());
                }
                int op = steps.get(at)[0];
                if (op == END && !outermost) {
                    at++;
                    return nodes;
                }
                if (op == END || op == CATCH || op == LAST) throw new Wrong(at);
                Node node = parseOne(steps);
                nodes.add(node);
                if (op != TRY) continue;
                while (at < steps.size() && steps.get(at)[0] == CATCH) node.catches.add(parseOne(steps));
                if (at < steps.size() && steps.get(at)[0] == LAST) node.last = parseOne(steps);
            }
        }

        private Node parseOne(List<int[]> steps) throws Wrong {
            Node node = new Node();
            node.step = steps.get(at);
            node.place = at;
            at++;
            if (node.step[0] >= HOLD) node.body = parse(steps, false);
            return node;
        }

        int run(int plan) {
            ran = new int[] {0, 0, -1, 0, 0, 0, 0, 0, 0};
            dos = 0;
            long[] stockBefore = stock.clone();
            int[] cellsBefore = cells.clone();
            int cardBefore = card;
            try {
                perform(treeOf(plan));
                return 0;
            } catch (Answer answer) {
                ran[0] = answer.number;
                return 1;
            } catch (Fault fault) {
                stock = stockBefore;
                cells = cellsBefore;
                card = cardBefore;
                ran[2] = fault.place;
                ran[3] = fault.cause;
                ran[7] = fault.own;
                lastFault = fault.kind;
                return -10 - fault.kind;
            } catch (Spent spent) {
                return -30;
            }
        }

        private List<Node> treeOf(int plan) {
            try {
                at = 0;
                return parse(plans.get(plan), true);
            } catch (Wrong wrong) {
                return null;
            }
        }

        private void count() {
            if (ran[1] == 300) throw new Spent();
            ran[1]++;
        }

        private Fault fault(int kind, Node node, int own) {
            ran[8]++;
            return new Fault(kind, node.place, own);
        }

        private void perform(List<Node> nodes) throws Fault, Answer {
            for (Node node : nodes) {
                if (node.step[0] == LOOP) {
                    do {
                        count();
                        need(node, node.step[1], 6);
                        if (stock[node.step[1]] <= 0) break;
                        perform(node.body);
                    } while (true);
                } else if (node.step[0] == AGAIN) {
                    again(node);
                } else {
                    count();
                    if (node.step[0] < DO) plain(node, node.step[1], node.step[2], node.step[3]);
                    else withBody(node, node.step[1], node.step[2], node.step[3]);
                }
            }
        }

        private void need(Node node, int number, int many) throws Fault {
            if (number < 0 || number >= many) throw fault(2, node, 0);
        }

        private void again(Node node) throws Fault, Answer {
            int times = node.step[1];
            for (int time = 1; ; time++) {
                count();
                if (times < 1 || times > 9) throw fault(8, node, 96);
                try {
                    keep(node);
                    return;
                } catch (Fault fault) {
                    if (time == times) throw fault;
                }
            }
        }

        private void keep(Node node) throws Fault, Answer {
            long[] stockBefore = stock.clone();
            int[] cellsBefore = cells.clone();
            int cardBefore = card;
            try {
                perform(node.body);
            } catch (Fault fault) {
                stock = stockBefore;
                cells = cellsBefore;
                card = cardBefore;
                throw fault;
            }
        }

        private void plain(Node node, int a, int b, int c) throws Fault, Answer {
            switch (node.step[0]) {
                case ADD: need(node, a, 6); stock[a] += b; break;
                case OVER:
                    need(node, a, 6);
                    if (b == 0) throw fault(6, node, 0);
                    stock[a] /= b;
                    break;
                case LAY: need(node, a, 16); ints(node, a, b); cells[b] = c; break;
                case READ: need(node, a, 16); need(node, c, 6); ints(node, a, b); stock[c] = cells[b]; break;
                case WRITE:
                    need(node, a, 16);
                    if (a == 7 || a > 7) throw fault(1, node, 0);
                    if (a != 1) throw fault(4, node, 0);
                    card = b;
                    break;
                case ASK: need(node, a, 16); need(node, b, 4); need(node, c, 6); stock[c] = ask(node, a, b); break;
                case FAIL: throw fault(8, node, a);
                case ANSWER: throw new Answer(a);
                default:
                    need(node, a, 3);
                    if (held[a] == 0) throw fault(7, node, 0);
                    break;
            }
        }

        private void ints(Node node, int bin, int i) throws Fault {
            if (bin >= 7) throw fault(1, node, 0);
            if (bin != 0 && bin != 6) throw fault(4, node, 0);
            need(node, i, 4);
        }

        private int ask(Node node, int bin, int what) throws Fault {
            if (bin >= 7) throw fault(1, node, 0);
            if (bin == 2) return new int[] {11, 28, 1250, 7}[what];
            if (bin == 4 && what != 1) return new int[] {1, 0, 5000, 7}[what];
            if (bin == 5 && what == 3) return 7;
            throw fault(bin == 5 ? 6 : 4, node, 0);
        }

        private void withBody(Node node, int a, int b, int c) throws Fault, Answer {
            switch (node.step[0]) {
                case DO: doPlan(node, a); break;
                case HOLD:
                    need(node, a, 3);
                    held[a]++;
                    ran[6] = Math.max(ran[6], held[0] + held[1] + held[2]);
                    try {
                        perform(node.body);
                    } finally {
                        held[a]--;
                    }
                    break;
                case TAKE:
                    need(node, a, 6);
                    if (b < 0 || stock[a] < b) throw fault(8, node, 97);
                    stock[a] -= b;
                    try {
                        perform(node.body);
                    } finally {
                        stock[a] += b;
                    }
                    break;
                case OPEN:
                    need(node, a, 3);
                    places[a] = b;
                    try {
                        perform(node.body);
                    } finally {
                        places[a] = c;
                    }
                    break;
                case KEEP: keep(node); break;
                case TRY: tryIt(node); break;
                default:
                    need(node, a, 6);
                    if (stock[a] > 0) perform(node.body);
                    break;
            }
        }

        private void doPlan(Node node, int a) throws Fault, Answer {
            need(node, a, 4);
            List<Node> tree = treeOf(a);
            if (tree == null) throw fault(8, node, 98);
            if (dos == 6) throw fault(8, node, 99);
            dos++;
            try {
                perform(tree);
            } finally {
                dos--;
            }
        }

        private void tryIt(Node node) throws Fault, Answer {
            Exception goes = null;
            try {
                bodyAndCatches(node);
            } catch (Fault | Answer way) {
                goes = way;
            }
            if (node.last != null) {
                ran[5]++;
                try {
                    perform(node.last.body);
                } catch (Fault fault) {
                    if (goes instanceof Fault) fault.cause = ((Fault) goes).kind;
                    throw fault;
                }
            }
            if (goes instanceof Fault) throw (Fault) goes;
            if (goes instanceof Answer) throw (Answer) goes;
        }

        private void bodyAndCatches(Node node) throws Fault, Answer {
            try {
                perform(node.body);
            } catch (Fault met) {
                for (Node one : node.catches) {
                    if (one.step[1] != 0 && one.step[1] != met.kind) continue;
                    ran[4]++;
                    try {
                        perform(one.body);
                    } catch (Fault fault) {
                        fault.cause = met.kind;
                        throw fault;
                    }
                    return;
                }
                throw met;
            }
        }
    }
}
