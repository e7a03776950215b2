import java.lang.reflect.Array;
import java.math.BigInteger;
import java.nio.ByteBuffer;
import java.util.ArrayList;
import java.util.Arrays;
import java.util.IdentityHashMap;
import java.util.List;
import java.util.Map;
import java.util.Objects;
import java.util.function.LongSupplier;

/**
 * The whole document read a second time, with all that the machine has and the class may not use: its own arrays, kinds,
 * faces and exceptions, copies of all cells for a KEEP, whole books of minutes for the PROBES, numbers without an end.
 */
final class SecondHouse {
    private static final int NONE = -1, BAD = -2, NO = -3, FULL = -4;
    private static final int NULL = 1, INDEX = 2, SIZE = 3, CAST = 4, STORE = 5, ZERO = 6, STATE = 7, OWN = 8;
    private static final Class<?>[] FORMS = {boolean[].class, byte[].class, char[].class, short[].class, int[].class,
        long[].class, float[].class, double[].class, short[][].class, int[][].class, double[][].class, int[][][].class,
        Plant[].class, Tomato[].class, Herb[].class, Thirsts[].class};

    private final Object[] bins = new Object[16];
    private int made;
    private int faults;
    private int lastFault;
    private int came;
    private int answer;
    private int plants;
    private int cards;
    private final List<Integer> trace = new ArrayList<>();

    // ---- faults

    private static int kindOf(RuntimeException e) {
        if (e instanceof NullPointerException) return NULL;
        if (e instanceof IndexOutOfBoundsException) return INDEX;
        if (e instanceof NegativeArraySizeException) return SIZE;
        if (e instanceof ClassCastException) return CAST;
        if (e instanceof ArrayStoreException) return STORE;
        if (e instanceof ArithmeticException) return ZERO;
        throw e;
    }

    private int did(LongSupplier act) {
        try {
            return (int) act.getAsLong();
        } catch (RuntimeException e) {
            return fails(kindOf(e));
        }
    }

    private long bits(LongSupplier act) {
        try {
            return act.getAsLong();
        } catch (RuntimeException e) {
            fails(kindOf(e));
            return 0;
        }
    }

    private int fails(int kind) {
        faults++;
        lastFault = kind;
        return -10 - kind;
    }

    private boolean full() {
        return faults >= 3000 || made >= 4000;
    }

    private static boolean in(long x, long least, long most) {
        return x >= least && x <= most;
    }

    private static boolean bin(int bin) {
        return in(bin, 0, 15);
    }

    // ---- 1

    private static int formOf(Object thing) {
        if (thing instanceof Kept) return 16;
        if (thing instanceof Card) return 17;
        return Arrays.asList(FORMS).indexOf(thing.getClass());
    }

    private static Object taken(Object thing, int form) {
        if (thing != null && formOf(thing) != form) throw new ClassCastException();
        return thing;
    }

    private static Object[] places(Object thing) {
        return (Object[]) thing;
    }

    private static long cell(Object row, int i) {
        Objects.requireNonNull(row);
        if (row instanceof boolean[] r) return r[i] ? 1 : 0;
        if (row instanceof byte[] r) return r[i];
        if (row instanceof char[] r) return r[i];
        if (row instanceof short[] r) return r[i];
        if (row instanceof int[] r) return r[i];
        if (row instanceof long[] r) return r[i];
        if (row instanceof float[] r) return Float.floatToIntBits(r[i]);
        return Double.doubleToLongBits(((double[]) row)[i]);
    }

    private static long setCell(Object row, int i, long bits) {
        Objects.requireNonNull(row);
        if (row instanceof boolean[] r) r[i] = (bits & 1) == 1;
        else if (row instanceof byte[] r) r[i] = (byte) bits;
        else if (row instanceof char[] r) r[i] = (char) bits;
        else if (row instanceof short[] r) r[i] = (short) bits;
        else if (row instanceof int[] r) r[i] = (int) bits;
        else if (row instanceof long[] r) r[i] = bits;
        else if (row instanceof float[] r) r[i] = Float.intBitsToFloat((int) bits);
        else ((double[]) row)[i] = Double.longBitsToDouble(bits);
        return 1;
    }

    int row(int bin, int lane, int n) {
        if (!bin(bin) || !in(lane, 0, 7) || n > 40) return BAD;
        if (full()) return FULL;
        return did(() -> keep(bin, Array.newInstance(FORMS[lane].getComponentType(), n), 1));
    }

    private long keep(int bin, Object thing, int things) {
        bins[bin] = thing;
        made += things;
        return 1;
    }

    int grid(int bin, int form, int a, int n, boolean bare) {
        if (!bin(bin) || !in(form, 8, 10) || a > 10 || n > 40) return BAD;
        if (full()) return FULL;
        Class<?> rows = FORMS[form].getComponentType();
        if (bare) return did(() -> keep(bin, Array.newInstance(rows, a), 1));
        return did(() -> keep(bin, Array.newInstance(rows.getComponentType(), a, n), 1 + a));
    }

    int storeys(int bin, int n) {
        if (!bin(bin) || n > 4) return BAD;
        if (full()) return FULL;
        return did(() -> keep(bin, new int[n][][], 1));
    }

    int share(int bin, int from) {
        if (!bin(bin) || !in(from, NONE, 15)) return BAD;
        bins[bin] = from == NONE ? null : bins[from];
        return 1;
    }

    int form(int bin) {
        if (!bin(bin)) return BAD;
        return bins[bin] == null ? NONE : formOf(bins[bin]);
    }

    int is(int bin, int form) {
        if (!bin(bin) || !in(form, 0, 17)) return BAD;
        Object thing = bins[bin];
        if (thing == null) return 0;
        if (thing instanceof Kept && in(form, 12, 15)) return FORMS[form].getComponentType().isInstance(thing) ? 1 : 0;
        return formOf(thing) == form ? 1 : 0;
    }

    long get(int bin, int lane, int i) {
        if (!bin(bin) || !in(lane, 0, 7)) return 0;
        return bits(() -> cell(taken(bins[bin], lane), i));
    }

    int put(int bin, int lane, int i, long bits) {
        if (!bin(bin) || !in(lane, 0, 7)) return BAD;
        return did(() -> setCell(taken(bins[bin], lane), i, bits));
    }

    long bed(int bin, int form, int i, int j) {
        if (!bin(bin) || !in(form, 8, 10)) return 0;
        return bits(() -> cell(places(taken(bins[bin], form))[i], j));
    }

    int setBed(int bin, int form, int i, int j, long bits) {
        if (!bin(bin) || !in(form, 8, 10)) return BAD;
        return did(() -> setCell(places(taken(bins[bin], form))[i], j, bits));
    }

    int countUp(int bin, int s, int i, int j, boolean after) {
        if (!bin(bin)) return 0;
        return (int) bits(() -> {
            int[][][] storeys = (int[][][]) taken(bins[bin], 11);
            return after ? ++storeys[s][i][j] : storeys[s][i][j]++;
        });
    }

    int set(int bin, int i, int from) {
        if (!bin(bin) || !bin(from)) return BAD;
        return did(() -> {
            places(bins[bin])[i] = bins[from];
            return 1;
        });
    }

    int lift(int bin, int from, int i) {
        if (!bin(bin) || !bin(from)) return BAD;
        return did(() -> keep(bin, places(bins[from])[i], 0));
    }

    int liftAs(int bin, int from, int i, int form) {
        if (!bin(bin) || !bin(from) || !in(form, 0, 17)) return BAD;
        return did(() -> keep(bin, taken(places(bins[from])[i], form), 0));
    }

    int shift(int bin, int i, int other, int j, int n) {
        if (!bin(bin) || !bin(other)) return BAD;
        came = 0;
        return did(() -> {
            int fits = howManyFit(bins[bin], i, bins[other], j, n);
            came = fits;
            System.arraycopy(bins[bin], i, bins[other], j, n);
            came = n;
            return n;
        });
    }

    private static int howManyFit(Object from, int i, Object to, int j, int n) {
        if (!(from instanceof Object[] f) || !(to instanceof Object[] t)) return 0;
        if (i < 0 || j < 0 || n < 0 || i > f.length - n || j > t.length - n) return 0;
        int fits = 0;
        while (fits < n && (f[i + fits] == null || t.getClass().getComponentType().isInstance(f[i + fits]))) fits++;
        return fits;
    }

    int came() {
        return came;
    }

    int copy(int bin, int from, boolean deep) {
        if (!bin(bin) || !bin(from)) return BAD;
        if (full()) return FULL;
        bins[bin] = twin(bins[from], deep);
        return 1;
    }

    private Object twin(Object thing, boolean deep) {
        if (thing == null || thing instanceof Kept) return thing;
        made++;
        if (thing instanceof Card card) return new Card(card);
        int length = Array.getLength(thing);
        Object twin = Array.newInstance(thing.getClass().getComponentType(), length);
        System.arraycopy(thing, 0, twin, 0, length);
        if (deep && twin instanceof Object[] inside) {
            for (int i = 0; i < length; i++) inside[i] = twin(inside[i], true);
        }
        return twin;
    }

    int alike(int bin, int other) {
        if (!bin(bin) || !bin(other)) return BAD;
        if (bins[bin] == bins[other]) return 2;
        return twins(bins[bin], bins[other]) ? 1 : 0;
    }

    private static boolean twins(Object one, Object two) {
        if (one == two) return true;
        if (one == null || two == null || formOf(one) != formOf(two) || one instanceof Kept) return false;
        if (one instanceof Card a) {
            Card b = (Card) two;
            for (int lane = 0; lane < 8; lane++) if (!twins(a.fields[lane], b.fields[lane])) return false;
            return a.next == b.next && a.leaf == b.leaf;
        }
        if (Array.getLength(one) != Array.getLength(two)) return false;
        for (int i = 0; i < Array.getLength(one); i++) {
            if (one instanceof Object[] a ? !twins(a[i], ((Object[]) two)[i]) : cell(one, i) != cell(two, i)) return false;
        }
        return true;
    }

    int size(int bin, int what) {
        if (!bin(bin) || !in(what, 0, 1)) return BAD;
        return did(() -> {
            Object thing = bins[bin];
            if (thing instanceof Kept || thing instanceof Card) throw new ClassCastException();
            int length = Array.getLength(thing);
            if (what == 0) return length;
            return thing instanceof Object[] inside ? Arrays.stream(inside).filter(Objects::isNull).count() : 0;
        });
    }

    // ---- 2

    /** All that FORM 16 has. */
    abstract class Kept {
        final int number;
        final int first;
        int a;
        int b;

        Kept() {
            number = plants++;
            List<Integer> before = new ArrayList<>(trace);
            first = mark();
            trace.clear();
            trace.addAll(before);
        }

        abstract int kind();

        public final void begins(int body) {
            trace.add(body);
        }

        public final int a() {
            return a;
        }

        public int size() {
            begins(1);
            return a;
        }

        int mark() {
            begins(30);
            return 7;
        }

        int depth() {
            return 0;
        }
    }

    interface Thirsts {
        void begins(int body);

        int size();

        default int thirst() {
            begins(10);
            return 3 + size();
        }
    }

    interface Costs {
        void begins(int body);

        int a();

        default int cost() {
            begins(20);
            return 5000 / a();
        }
    }

    abstract class Plant extends Kept {
    }

    class Herb extends Plant implements Costs {
        @Override int kind() {
            return 0;
        }
    }

    class Tomato extends Plant implements Thirsts, Costs {
        @Override int kind() {
            return 1;
        }

        @Override public int size() {
            begins(2);
            return 2 * super.size() + b;
        }

        @Override public int thirst() {
            begins(11);
            return 2 * Thirsts.super.thirst();
        }
    }

    final class Graft extends Tomato {
        private final Kept p;
        private final Kept q;

        Graft(Kept p, Kept q) {
            this.p = p;
            this.q = q;
        }

        @Override int kind() {
            return 2;
        }

        @Override public int size() {
            begins(3);
            return p.size() + q.size() + super.size();
        }

        @Override int mark() {
            begins(31);
            return 9 + b;
        }

        @Override int depth() {
            return 1 + Math.max(p == null ? 0 : p.depth(), q == null ? 0 : q.depth());
        }
    }

    final class Cress extends Herb implements Thirsts {
        @Override int kind() {
            return 3;
        }

        @Override public int size() {
            begins(4);
            return super.size() / b;
        }

        @Override public int cost() {
            begins(21);
            return super.cost() + thirst();
        }
    }

    final class Probe extends Kept implements Costs {
        @Override int kind() {
            return 4;
        }
    }

    final class Valve extends Kept implements Thirsts {
        @Override int kind() {
            return 5;
        }

        @Override public int thirst() {
            begins(12);
            return b;
        }
    }

    final class Card {
        final int number = cards++;
        final Object[] fields = new Object[8];
        Card next;
        Kept leaf;

        Card() {
            for (int lane = 0; lane < 8; lane++) fields[lane] = Array.newInstance(FORMS[lane].getComponentType(), 1);
        }

        Card(Card from) {
            this();
            for (int lane = 0; lane < 8; lane++) System.arraycopy(from.fields[lane], 0, fields[lane], 0, 1);
            next = from.next;
            leaf = from.leaf;
        }
    }

    int plant(int bin, int kind, int a, int b, int p, int q) {
        if (!bin(bin) || !in(kind, 0, 5) || kind == 2 && (!bin(p) || !bin(q))) return BAD;
        if (full()) return FULL;
        return did(() -> {
            Kept one = kind == 2 ? (Kept) bins[p] : null;
            Kept two = kind == 2 ? (Kept) bins[q] : null;
            if (one != null && one.depth() >= 4 || two != null && two.depth() >= 4) return FULL;
            Kept plant = switch (kind) {
                case 0 -> new Herb();
                case 1 -> new Tomato();
                case 2 -> new Graft(one, two);
                case 3 -> new Cress();
                case 4 -> new Probe();
                default -> new Valve();
            };
            plant.a = a;
            plant.b = b;
            keep(bin, plant, 1);
            return plant.number;
        });
    }

    int tray(int bin, int form, int n) {
        if (!bin(bin) || !in(form, 12, 15) || n > 8) return BAD;
        if (full()) return FULL;
        return did(() -> keep(bin, Array.newInstance(FORMS[form].getComponentType(), n), 1));
    }

    private int told(Object thing, int what) {
        trace.clear();
        Kept plant = (Kept) thing;
        return switch (what) {
            case 0 -> plant.size();
            case 1 -> ((Thirsts) plant).thirst();
            case 2 -> ((Costs) plant).cost();
            case 3 -> plant.mark();
            case 4 -> plant.first;
            case 5 -> plant.number;
            case 6 -> plant.kind();
            default -> plant.depth();
        };
    }

    int ask(int bin, int what) {
        if (!bin(bin) || !in(what, 0, 7)) return BAD;
        return did(() -> {
            answer = told(bins[bin], what);
            return 1;
        });
    }

    int answer() {
        return answer;
    }

    int trace(int i) {
        return in(i, 0, trace.size() - 1) ? trace.get(i) : NONE;
    }

    int card(int bin) {
        if (!bin(bin)) return BAD;
        if (full()) return FULL;
        Card card = new Card();
        keep(bin, card, 1);
        return card.number;
    }

    long field(int bin, int lane) {
        if (!bin(bin) || !in(lane, 0, 7)) return 0;
        return bits(() -> cell(((Card) bins[bin]).fields[lane], 0));
    }

    int setField(int bin, int lane, long bits) {
        if (!bin(bin) || !in(lane, 0, 7)) return BAD;
        return did(() -> setCell(((Card) bins[bin]).fields[lane], 0, bits));
    }

    int lead(int bin, int what, int from) {
        if (!bin(bin) || !in(what, 0, 1) || !bin(from)) return BAD;
        return did(() -> {
            if (what == 0) ((Card) bins[bin]).next = (Card) bins[from];
            else ((Card) bins[bin]).leaf = (Kept) bins[from];
            return 1;
        });
    }

    int follow(int bin, int from, int what) {
        if (!bin(bin) || !in(what, 0, 1) || !bin(from)) return BAD;
        return did(() -> keep(bin, what == 0 ? ((Card) bins[from]).next : ((Card) bins[from]).leaf, 0));
    }

    int led(int bin, int what) {
        if (!bin(bin) || !in(what, 0, 2)) return BAD;
        return did(() -> {
            List<Card> seen = new ArrayList<>();
            Card card = (Card) bins[bin];
            Objects.requireNonNull(card);
            while (card != null && !seen.contains(card)) {
                seen.add(card);
                card = card.next;
            }
            if (what == 0) return seen.size();
            return what == 2 ? seen.get(seen.size() - 1).number : card == null ? NONE : card.number;
        });
    }

    // ---- 3

    private record Step(int op, int a, int b, int c) {
    }

    /** A STEP with the BODY behind it and, of a TRY, its CATCHES and its LAST. */
    private static final class Node {
        Step step;
        int place;
        final List<Node> body = new ArrayList<>();
        final List<Node> catches = new ArrayList<>();
        Node last;
    }

    @SuppressWarnings("serial")
    private static final class MayNotStand extends RuntimeException {
        final int place;

        MayNotStand(int place) {
            this.place = place;
        }
    }

    @SuppressWarnings("serial")
    private static final class Fault extends RuntimeException {
        final int kind;
        final int number;
        final int place;
        int cause;

        Fault(int kind, int number, int place) {
            this.kind = kind;
            this.number = number;
            this.place = place;
        }
    }

    @SuppressWarnings("serial")
    private static final class Answered extends RuntimeException {
        final int answer;

        Answered(int answer) {
            this.answer = answer;
        }
    }

    @SuppressWarnings("serial")
    private static final class Spent extends RuntimeException {
    }

    private final List<List<Step>> plans = List.of(new ArrayList<>(), new ArrayList<>(), new ArrayList<>(), new ArrayList<>());
    private final long[] stock = new long[6];
    private final int[] valvePlace = new int[3];
    private final int[] held = new int[3];
    private int[] ran = {0, 0, NONE, 0, 0, 0, 0, 0, 0};
    private int at;
    private int dos;

    int step(int plan, int op, int a, int b, int c) {
        if (!in(plan, 0, 3) || !in(op, 0, 20)) return BAD;
        if (plans.get(plan).size() == 40) return FULL;
        plans.get(plan).add(new Step(op, a, b, c));
        return plans.get(plan).size() - 1;
    }

    int drop(int plan) {
        if (!in(plan, 0, 3)) return BAD;
        int had = plans.get(plan).size();
        plans.get(plan).clear();
        return had;
    }

    int formed(int plan) {
        if (!in(plan, 0, 3)) return 0;
        try {
            whole(plan);
            return NONE;
        } catch (MayNotStand e) {
            return e.place;
        }
    }

    private List<Node> whole(int plan) {
        at = 0;
        List<Node> body = new ArrayList<>();
        readBody(plans.get(plan), body);
        if (at < plans.get(plan).size()) throw new MayNotStand(at);
        return body;
    }

    /** Reads up to an END or to the last STEP. */
    private void readBody(List<Step> steps, List<Node> body) {
        while (at < steps.size() && steps.get(at).op != 0) {
            int op = steps.get(at).op;
            if (op == 17 || op == 18) throw new MayNotStand(at);
            Node node = readNode(steps);
            body.add(node);
            if (op != 16) continue;
            while (at < steps.size() && steps.get(at).op == 17) node.catches.add(readNode(steps));
            if (at < steps.size() && steps.get(at).op == 18) node.last = readNode(steps);
        }
    }

    private Node readNode(List<Step> steps) {
        Node node = new Node();
        node.step = steps.get(at);
        node.place = at;
        at++;
        if (node.step.op < 11) return node;
        readBody(steps, node.body);
        if (at == steps.size()) throw new MayNotStand(at);
        at++;
        return node;
    }

    int run(int plan) {
        if (!in(plan, 0, 3)) return BAD;
        if (formed(plan) != NONE) return NO;
        if (full()) return FULL;
        ran = new int[] {0, 0, NONE, 0, 0, 0, 0, 0, 0};
        dos = 0;
        try {
            keeping(() -> all(whole(plan)));
            return 0;
        } catch (Answered e) {
            ran[0] = e.answer;
            return 1;
        } catch (Spent e) {
            return -30;
        } catch (Fault e) {
            ran[2] = e.place;
            ran[3] = e.cause;
            ran[7] = e.kind == OWN ? e.number : 0;
            lastFault = e.kind;
            return -10 - e.kind;
        } finally {
            faults += ran[8];
        }
    }

    private void keeping(Runnable body) {
        Map<Object, Object> before = new IdentityHashMap<>();
        for (Object thing : bins) {
            if (thing instanceof int[] row) before.put(row, row.clone());
            if (thing instanceof Card card) before.put(card.fields[4], ((int[]) card.fields[4]).clone());
        }
        before.put(stock, stock.clone());
        try {
            body.run();
        } catch (Fault e) {
            before.forEach((thing, was) -> System.arraycopy(was, 0, thing, 0, Array.getLength(was)));
            throw e;
        }
    }

    private void counts() {
        if (ran[1] == 300) throw new Spent();
        ran[1]++;
    }

    private void all(List<Node> body) {
        for (Node node : body) {
            counts();
            if (node.step.op == 16) tries(node);
            else one(node);
        }
    }

    /** What the machine has against a STEP becomes a FAULT at its PLACE; what comes out of BODIES goes by. */
    private void one(Node node) {
        Runnable body = () -> all(node.body);
        Step s = node.step;
        switch (s.op) {
            case 11 -> {
                arises(node, () -> held[s.a]++);
                ran[6] = Math.max(ran[6], Arrays.stream(held).sum());
                finish(body, () -> held[s.a]--);
            }
            case 12 -> {
                arises(node, () -> stock[s.a] += 0);
                if (s.b < 0 || stock[s.a] < s.b) throw fault(OWN, 97, node);
                stock[s.a] -= s.b;
                finish(body, () -> stock[s.a] += s.b);
            }
            case 13 -> {
                arises(node, () -> valvePlace[s.a] = s.b);
                finish(body, () -> valvePlace[s.a] = s.c);
            }
            case 14 -> keeping(body);
            case 15 -> again(node, body);
            case 19 -> {
                arises(node, () -> stock[s.a] += 0);
                if (stock[s.a] > 0) body.run();
            }
            case 20 -> {
                arises(node, () -> stock[s.a] += 0);
                while (stock[s.a] > 0) {
                    body.run();
                    counts();
                }
            }
            case 10 -> does(node);
            default -> arises(node, () -> plain(node));
        }
    }

    private void arises(Node node, Runnable act) {
        try {
            act.run();
        } catch (Fault | Answered e) {
            throw e;
        } catch (RuntimeException e) {
            throw fault(kindOf(e), 0, node);
        }
    }

    private Fault fault(int kind, int number, Node node) {
        ran[8]++;
        return new Fault(kind, number, node.place);
    }

    private static void finish(Runnable body, Runnable back) {
        try {
            body.run();
        } finally {
            back.run();
        }
    }

    private void again(Node node, Runnable body) {
        if (!in(node.step.a, 1, 9)) throw fault(OWN, 96, node);
        for (int time = 1; ; time++) {
            try {
                keeping(body);
                return;
            } catch (Fault e) {
                if (time == node.step.a) throw e;
            }
            counts();
        }
    }

    private void does(Node node) {
        int plan = node.step.a;
        if (!in(plan, 0, 3)) throw fault(INDEX, 0, node);
        if (formed(plan) != NONE) throw fault(OWN, 98, node);
        if (dos == 6) throw fault(OWN, 99, node);
        dos++;
        finish(() -> all(whole(plan)), () -> dos--);
    }

    private void plain(Node node) {
        Step s = node.step;
        switch (s.op) {
            case 1 -> stock[s.a] += s.b;
            case 2 -> stock[s.a] /= s.b;
            case 3 -> ((int[]) bins[s.a])[s.b] = s.c;
            case 4 -> {
                Object row = bins[s.a];
                stock[s.c] += 0;
                stock[s.c] = ((int[]) row)[s.b];
            }
            case 5 -> ((int[]) ((Card) bins[s.a]).fields[4])[0] = s.b;
            case 6 -> {
                Object plant = bins[s.a];
                Objects.checkIndex(s.b, 4);
                stock[s.c] += 0;
                stock[s.c] = told(plant, s.b);
            }
            case 7 -> throw fault(OWN, s.a, node);
            case 8 -> throw new Answered(s.a);
            case 9 -> {
                if (held[s.a] == 0) throw fault(STATE, 0, node);
            }
            default -> throw new IllegalStateException();
        }
    }

    private void tries(Node node) {
        RuntimeException goes = null;
        try {
            all(node.body);
        } catch (Answered e) {
            goes = e;
        } catch (Fault e) {
            goes = meets(node, e);
        }
        if (node.last != null) {
            ran[5]++;
            try {
                all(node.last.body);
            } catch (Fault e) {
                if (goes instanceof Fault replaced) e.cause = replaced.kind;
                throw e;
            }
        }
        if (goes != null) throw goes;
    }

    private RuntimeException meets(Node node, Fault met) {
        for (Node catches : node.catches) {
            if (catches.step.a != 0 && catches.step.a != met.kind) continue;
            ran[4]++;
            try {
                all(catches.body);
                return null;
            } catch (Answered e) {
                return e;
            } catch (Fault e) {
                e.cause = met.kind;
                return e;
            }
        }
        return met;
    }

    int ran(int what) {
        return in(what, 0, 8) ? ran[what] : BAD;
    }

    long stock(int k) {
        return in(k, 0, 5) ? stock[k] : 0;
    }

    int setStock(int k, long v) {
        if (!in(k, 0, 5)) return BAD;
        stock[k] = v;
        return 1;
    }

    int valve(int v, int what) {
        if (!in(v, 0, 2) || !in(what, 0, 1)) return 0;
        return what == 0 ? valvePlace[v] : held[v];
    }

    // ---- 4

    private record Point(int x, int y) {
    }

    private final List<List<Point>> lines = List.of(new ArrayList<>(), new ArrayList<>(), new ArrayList<>());
    private final int[] rests = {NONE, NONE, NONE};
    private final List<Integer> begun = new ArrayList<>();
    private final List<Integer> laid = new ArrayList<>();
    private final int[] offset = new int[3];

    int line(int table, int x, int y) {
        if (!in(table, 0, 2) || !in(x, -1000000, 1000000) || !in(y, -1000000, 1000000)) return BAD;
        List<Point> of = lines.get(table);
        if (!of.isEmpty() && x <= of.get(of.size() - 1).x) return BAD;
        if (of.size() == 8) return FULL;
        of.add(new Point(x, y));
        return of.size();
    }

    int rest(int table, int on) {
        if (!in(table, 0, 2) || !in(on, NONE, 2)) return BAD;
        if (laid.contains(table)) return NO;
        rests[table] = on;
        return 1;
    }

    int value(int table, int x) {
        if (!in(table, 0, 2)) return 0;
        if (!laid.contains(table)) lay(table);
        return offset[table] + height(lines.get(table), x);
    }

    private void lay(int table) {
        begun.add(table);
        int on = rests[table];
        if (on != NONE && !begun.contains(on)) lay(on);
        offset[table] = on == NONE ? 0 : laid.contains(on) ? offset[on] + 1 : 1;
        laid.add(table);
    }

    private static int height(List<Point> of, int x) {
        if (of.isEmpty()) return 0;
        Point before = of.get(0);
        if (x < before.x) return before.y;
        for (Point next : of) {
            if (next.x == x) return next.y;
            if (next.x > x) return between(before, next, x);
            before = next;
        }
        return before.y;
    }

    private static int between(Point one, Point two, int x) {
        BigInteger[] cut = BigInteger.valueOf((long) two.y - one.y).multiply(BigInteger.valueOf((long) x - one.x))
            .divideAndRemainder(BigInteger.valueOf((long) two.x - one.x));
        return one.y + cut[0].intValueExact() - (cut[1].signum() < 0 ? 1 : 0);
    }

    int laid(int k) {
        return in(k, 0, laid.size() - 1) ? laid.get(k) : NONE;
    }

    // ---- 5

    private static final class Sensor {
        double reading = Double.NaN;
        boolean isIn = true;
        int why;
        final List<Long> bits = new ArrayList<>();
        final StringBuilder judged = new StringBuilder();

        boolean reads() {
            return !Double.isNaN(reading);
        }

        boolean changed() {
            int n = bits.size();
            return n > 1 && !bits.get(n - 1).equals(bits.get(n - 2));
        }

        int same() {
            int many = 0;
            for (int i = bits.size() - 1; i >= 0 && bits.get(i).equals(bits.get(bits.size() - 1)); i--) many++;
            return many;
        }

        int inARow(char what) {
            int many = 0;
            for (int i = judged.length() - 1; i >= 0 && judged.charAt(i) == what; i--) many++;
            return many;
        }

        void becomes(boolean in, int because) {
            isIn = in;
            why = because;
            judged.append('|');
        }
    }

    private final Sensor[] sensors = new Sensor[9];
    private double part = 2.0;
    private final double[] values = {Double.NaN, Double.NaN, Double.NaN};

    int read(int probe, long bits) {
        if (!in(probe, 0, 8)) return BAD;
        sensors[probe].reading = Double.longBitsToDouble(bits);
        return 1;
    }

    int part(long bits) {
        double wanted = Double.longBitsToDouble(bits);
        if (Double.isNaN(wanted) || wanted < 0) return BAD;
        part = wanted;
        return 1;
    }

    int probe(int probe, int what) {
        if (!in(probe, 0, 8) || !in(what, 0, 4)) return BAD;
        Sensor s = sensors[probe];
        return switch (what) {
            case 0 -> s.isIn ? 1 : 0;
            case 1 -> s.why;
            case 2 -> s.inARow('O');
            case 3 -> s.inARow('N');
            default -> s.same();
        };
    }

    long voted(int house) {
        return in(house, 0, 2) ? Double.doubleToLongBits(values[house]) : 0;
    }

    private void vote(int house) {
        List<Sensor> all = List.of(sensors[house], sensors[house + 3], sensors[house + 6]);
        for (Sensor s : all) s.bits.add(Double.doubleToLongBits(s.reading));
        double[] ordered = all.stream().filter(s -> s.isIn && s.reads()).mapToDouble(s -> s.reading).sorted().toArray();
        double value = ordered.length == 0 ? Double.NaN : ordered[(ordered.length - 1) / 2];
        values[house] = value;
        boolean three = all.stream().filter(Sensor::reads).count() >= 3 && ordered.length > 0;
        for (Sensor s : all) {
            boolean off = s.reading != value && Math.abs(s.reading - value) > part;
            s.judged.append(!three || !s.reads() ? '-' : off ? 'O' : 'N');
        }
        for (Sensor s : all) {
            boolean another = all.stream().anyMatch(o -> o != s && o.changed());
            if (s.reads() && s.same() >= 8 && another) s.becomes(false, 2);
            else if (s.isIn && s.inARow('O') >= 3) s.becomes(false, 1);
            else if (!s.isIn && s.inARow('N') >= 5) s.becomes(true, 0);
        }
    }

    // ---- 6

    private static final int[][] CLIMATE = {{0, 1000}, {-40000, 60000}, {0, 40000}, {0, 1}, {0, 1}};
    private final int[] outside = {0, 10000, 5000, 0, 0};
    private final List<List<Point>> marks = List.of(new ArrayList<>(), new ArrayList<>(), new ArrayList<>());
    private final long[][] air = new long[3][11];
    private int minute;

    SecondHouse() {
        for (int i = 0; i < 9; i++) sensors[i] = new Sensor();
        for (long[] house : air) {
            house[0] = 20000;
            house[1] = 8000;
        }
    }

    int weather(int what, int v) {
        if (!in(what, 0, 4) || !in(v, CLIMATE[what][0], CLIMATE[what][1])) return -100000;
        int was = outside[what];
        outside[what] = v;
        return was;
    }

    int mark(int house, int minute, int wish) {
        if (!in(house, 0, 2) || !in(minute, 0, 1439) || !in(wish, -50000, 60000)) return BAD;
        List<Point> of = marks.get(house);
        if (!of.isEmpty() && minute <= of.get(of.size() - 1).x) return BAD;
        if (of.size() == 6) return FULL;
        of.add(new Point(minute, wish));
        return of.size();
    }

    int unmark(int house) {
        if (!in(house, 0, 2)) return BAD;
        int had = marks.get(house).size();
        marks.get(house).clear();
        return had;
    }

    int wish(int house, int minute) {
        if (!in(house, 0, 2) || !in(minute, 0, 1439)) return -100000;
        List<Point> of = marks.get(house);
        if (of.isEmpty()) return -100001;
        Point first = of.get(0);
        Point last = of.get(of.size() - 1);
        List<Point> round = new ArrayList<>(of);
        round.add(0, new Point(last.x - 1440, last.y));
        round.add(new Point(first.x + 1440, first.y));
        return height(round, minute);
    }

    int minute(int n) {
        if (!in(n, 1, 100)) return BAD;
        if (minute + n > 100000) return FULL;
        for (int i = 0; i < n; i++) {
            minute++;
            for (int house = 0; house < 3; house++) {
                vote(house);
                steer(house, air[house]);
                blow(air[house]);
            }
        }
        return minute;
    }

    private static long near(long from, long to) {
        return from + Math.max(-10, Math.min(10, to - from));
    }

    private static long clamp(long x, long by) {
        return Math.max(-by, Math.min(by, x));
    }

    private void steer(int house, long[] air) {
        long vent = air[3];
        long pipe = air[4];
        boolean storm = outside[3] == 1;
        if (storm) {
            vent = near(vent, 0);
        } else if (Double.isNaN(values[house]) || marks.get(house).isEmpty()) {
            vent = near(vent, 10);
            pipe = near(pipe, 30);
        } else {
            long v = clamp((long) (values[house] * 1000), 1000000000);
            long d = clamp(v - wish(house, minute % 1440), 100000);
            air[5] = clamp(air[5] + d / 16, 4000);
            long move = clamp(d / 400 + air[5] / 500, 10);
            for (; move > 0; move--) {
                if (pipe > 0) pipe--;
                else if (vent < 100) vent++;
            }
            for (; move < 0; move++) {
                if (vent > 0) vent--;
                else if (pipe < 100) pipe++;
            }
        }
        if (outside[4] == 1 && !storm && vent > 20) vent = Math.max(20, air[3] - 10);
        air[3] = vent;
        air[4] = pipe;
    }

    private void blow(long[] air) {
        long in = outside[0] / 8 + 5 * air[4];
        long lost = (air[0] - outside[1]) * (2 + air[3]) / 200;
        air[0] = air[0] + in - lost;
        long wet = 12 + outside[0] / 50;
        long gone = (air[1] - outside[2]) * air[3] / 80;
        air[1] = air[1] + wet - gone;
        if (air[1] < 0) {
            air[10] -= air[1];
            air[1] = 0;
        }
        long most = lines.get(0).isEmpty() ? 9000 : Math.max(0, value(0, (int) (air[0] / 1000)));
        if (air[1] > most) {
            air[2] += air[1] - most;
            air[1] = most;
        }
        air[6] += in;
        air[7] += lost;
        air[8] += wet;
        air[9] += gone;
    }

    long air(int house, int what) {
        return in(house, 0, 2) && in(what, 0, 10) ? air[house][what] : 0;
    }

    // ---- 7

    private static long[] dealt(long n, long[] by) {
        BigInteger sum = BigInteger.valueOf(Arrays.stream(by).sum());
        long[] to = new long[by.length];
        BigInteger[] rest = new BigInteger[by.length];
        List<Integer> order = new ArrayList<>();
        long left = n;
        for (int i = 0; i < by.length; i++) {
            BigInteger[] cut = BigInteger.valueOf(n).multiply(BigInteger.valueOf(by[i])).divideAndRemainder(sum);
            to[i] = cut[0].longValueExact();
            rest[i] = cut[1];
            left -= to[i];
            order.add(i);
        }
        order.sort((i, j) -> rest[j].compareTo(rest[i]));
        for (int k = 0; k < left; k++) to[order.get(k)]++;
        return to;
    }

    int shares(int bin, int n, int to) {
        if (!bin(bin) || !bin(to) || !in(n, 0, 1000000000)) return BAD;
        return did(() -> {
            int[] row = (int[]) taken(bins[bin], 4);
            long[] by = Arrays.stream(row).asLongStream().toArray();
            if (Arrays.stream(by).anyMatch(x -> x < 0) || Arrays.stream(by).sum() == 0) return NO;
            if (full()) return FULL;
            return keep(to, dealt(n, by), 1);
        });
    }

    long quotient(int lane, long a, long b, int what) {
        if (!in(lane, 4, 5) || !in(what, 0, 1)) return 0;
        if (lane == 5) return bits(() -> what == 0 ? a / b : a % b);
        return bits(() -> what == 0 ? (int) a / (int) b : (int) a % (int) b);
    }

    int compare(int lane, int bin, int i, int other, int j) {
        if (!in(lane, 6, 7) || !bin(bin) || !bin(other)) return BAD;
        return did(() -> {
            Object one = taken(bins[bin], lane);
            Object two = taken(bins[other], lane);
            double x = lane == 6 ? ((float[]) one)[i] : ((double[]) one)[i];
            double y = lane == 6 ? ((float[]) two)[j] : ((double[]) two)[j];
            return (x < y ? 1 : 0) + (x <= y ? 2 : 0) + (x > y ? 4 : 0) + (x >= y ? 8 : 0) + (x == y ? 16 : 0) + (x != y ? 32 : 0);
        });
    }

    long real(int lane, int bin, int what) {
        if (!in(lane, 6, 7) || !bin(bin) || !in(what, 0, 3)) return 0;
        return bits(() -> {
            Object row = taken(bins[bin], lane);
            double[] all = new double[Array.getLength(row)];
            for (int i = 0; i < all.length; i++) all[i] = Array.getDouble(row, i);
            double[] numbers = Arrays.stream(all).filter(x -> !Double.isNaN(x)).toArray();
            if (numbers.length == 0) return Double.doubleToLongBits(Double.NaN);
            if (what == 2) {
                double sum = 0.0;
                for (double x : numbers) sum += x;
                return Double.doubleToLongBits(sum / numbers.length);
            }
            Arrays.sort(numbers);
            int at = what == 0 ? 0 : what == 1 ? numbers.length - 1 : (numbers.length - 1) / 2;
            return Double.doubleToLongBits(numbers[at]);
        });
    }

    int wholeMean(int bin) {
        if (!bin(bin)) return BAD;
        return did(() -> {
            int[] row = (int[]) taken(bins[bin], 4);
            answer = (int) (Arrays.stream(row).asLongStream().sum() / row.length);
            return 1;
        });
    }

    private static final class Fraction {
        final BigInteger up;
        final BigInteger low;

        Fraction(BigInteger up, BigInteger low) {
            BigInteger by = up.gcd(low).multiply(BigInteger.valueOf(low.signum()));
            this.up = up.divide(by);
            this.low = low.divide(by);
        }

        static Fraction of(long whole) {
            return new Fraction(BigInteger.valueOf(whole), BigInteger.ONE);
        }

        boolean isZero() {
            return up.signum() == 0;
        }

        Fraction by(Fraction o) {
            return new Fraction(up.multiply(o.low), low.multiply(o.up));
        }

        Fraction lessTimes(Fraction o, Fraction times) {
            BigInteger less = o.up.multiply(times.up);
            BigInteger lessLow = o.low.multiply(times.low);
            return new Fraction(up.multiply(lessLow).subtract(less.multiply(low)), low.multiply(lessLow));
        }
    }

    private final int[][] salts = new int[6][3];
    private int rank;
    private Fraction[] f;
    private long[] witness;
    private boolean wasWorked;

    int salt(int salt, int j, int v) {
        if (!in(salt, 0, 5) || !in(j, 0, 2) || !in(v, 0, salt < 4 ? 99 : 999)) return BAD;
        int was = salts[salt][j];
        salts[salt][j] = v;
        return was;
    }

    int work() {
        Fraction[][] rows = new Fraction[3][8];
        for (int j = 0; j < 3; j++) {
            for (int i = 0; i < 4; i++) rows[j][i] = Fraction.of(salts[i][j]);
            rows[j][4] = Fraction.of(salts[4][j] - salts[5][j]);
            for (int k = 0; k < 3; k++) rows[j][5 + k] = Fraction.of(j == k ? 1 : 0);
        }
        wasWorked = true;
        rank = 0;
        List<Integer> columns = new ArrayList<>();
        for (int column = 0; column < 4; column++) {
            int first = rank;
            while (first < 3 && rows[first][column].isZero()) first++;
            if (first >= 3) continue;
            Fraction[] row = rows[first];
            rows[first] = rows[rank];
            rows[rank] = row;
            Fraction pivot = row[column];
            for (int k = 0; k < 8; k++) row[k] = row[k].by(pivot);
            for (Fraction[] other : rows) {
                Fraction times = other[column];
                for (int k = 0; k < 8 && other != row; k++) other[k] = other[k].lessTimes(row[k], times);
            }
            columns.add(column);
            rank++;
        }
        f = null;
        witness = null;
        for (int j = rank; j < 3; j++) {
            if (!rows[j][4].isZero()) {
                witness = wholes(Arrays.copyOfRange(rows[j], 5, 8));
                return 0;
            }
        }
        f = new Fraction[4];
        Arrays.fill(f, Fraction.of(0));
        for (int k = 0; k < rank; k++) f[columns.get(k)] = rows[k][4];
        return Arrays.stream(f).anyMatch(x -> x.up.signum() < 0) ? 2 : 1;
    }

    private static long[] wholes(Fraction[] parts) {
        BigInteger all = BigInteger.ONE;
        for (Fraction part : parts) all = all.multiply(part.low);
        BigInteger divisor = BigInteger.ZERO;
        for (Fraction part : parts) divisor = divisor.gcd(part.up.multiply(all).divide(part.low));
        int sign = 0;
        long[] wholes = new long[parts.length];
        for (int i = 0; i < parts.length; i++) {
            wholes[i] = parts[i].up.multiply(all).divide(parts[i].low).divide(divisor).longValueExact();
            if (sign == 0) sign = Long.signum(wholes[i]);
        }
        for (int i = 0; i < parts.length; i++) wholes[i] *= sign;
        return wholes;
    }

    long worked(int what, int k) {
        if (what == 3) return wasWorked ? rank : 0;
        if (what == 0 && f != null && in(k, 0, 3)) return f[k].up.longValueExact();
        if (what == 1 && f != null && in(k, 0, 3)) return f[k].low.longValueExact();
        return what == 2 && witness != null && in(k, 0, 2) ? witness[k] : 0;
    }

    // ---- 8

    private final long[][] pests = new long[2][4];
    private final int[][][] parts = new int[2][4][3];
    private int days;
    private int pickingFrom;

    int count(int pest, int stage, int n) {
        if (!in(pest, 0, 1) || !in(stage, 0, 3) || !in(n, 0, 1000000000)) return BAD;
        pests[pest][stage] = n;
        return 1;
    }

    int parts(int pest, int stage, int on, int stays, int young) {
        if (!in(pest, 0, 1) || !in(stage, 0, 3) || !in(on, 0, 1000) || !in(stays, 0, 1000) || !in(young, 0, 1000)) return BAD;
        parts[pest][stage] = new int[] {on, stays, young};
        return 1;
    }

    int day(int n) {
        if (!in(n, 1, 50)) return BAD;
        if (days + n > 10000) return FULL;
        for (int i = 0; i < n; i++) {
            days++;
            for (int pest = 0; pest < 2; pest++) {
                long[] now = new long[4];
                for (int stage = 0; stage < 4; stage++) {
                    int[] of = parts[pest][stage];
                    long[] ways = dealt(pests[pest][stage], new long[] {of[0], of[1], 2000 - of[0] - of[1]});
                    now[stage] += ways[1];
                    if (stage < 3) now[stage + 1] += ways[0];
                    else now[0] += pests[pest][stage] * of[2] / 100;
                }
                for (int stage = 0; stage < 4; stage++) pests[pest][stage] = Math.min(1000000000, now[stage]);
            }
        }
        return days;
    }

    int spray(int pest) {
        if (!in(pest, 0, 1)) return BAD;
        for (int stage = 0; stage < 4; stage++) pests[pest][stage] = pests[pest][stage] / 4;
        pickingFrom = days + 7;
        return 1;
    }

    int pest(int pest, int stage) {
        return in(pest, 0, 1) && in(stage, 0, 3) ? (int) pests[pest][stage] : BAD;
    }

    int wait1() {
        return Math.max(0, pickingFrom - days);
    }

    // ---- 9

    private final byte[][] pages = new byte[20][64];
    private int latest;
    private int nextPage;
    private int power = NONE;
    private boolean dark;

    private static byte[] sheet(int number, int lane, long[] cells) {
        ByteBuffer sheet = ByteBuffer.allocate(64);
        sheet.putInt(0, number).put(4, (byte) lane).put(5, (byte) cells.length);
        for (int c = 0; c < cells.length; c++) sheet.putLong(12 + 8 * c, cells[c]);
        int s = 0;
        for (int i = 0; i < 60; i++) s = Integer.rotateLeft(s ^ sheet.get(i) & 255, 11) * 0xC2B2AE35;
        return sheet.putInt(60, s).array();
    }

    int write(int bin) {
        if (!bin(bin)) return BAD;
        Object row = bins[bin];
        if (row != null && !List.of(1, 3, 4, 5).contains(formOf(row))) return fails(CAST);
        if (row == null) return fails(NULL);
        if (dark) return NO;
        int length = Array.getLength(row);
        if (length > 6 || nextPage == 20 || latest == Integer.MAX_VALUE) return FULL;
        long[] cells = new long[length];
        for (int c = 0; c < length; c++) cells[c] = cell(row, c);
        byte[] sheet = sheet(latest + 1, formOf(row), cells);
        byte[] page = pages[nextPage];
        for (int i = 0; i < 64; i++) {
            if (power == 0) {
                dark = true;
                return NO;
            }
            if (power > 0) power--;
            if (i == 0) nextPage++;
            page[i] = sheet[i];
        }
        latest++;
        return latest;
    }

    int power(int n) {
        if (!in(n, NONE, 200)) return BAD;
        if (dark) return NO;
        power = n;
        return 1;
    }

    private static int numberOf(byte[] page) {
        return ByteBuffer.wrap(page).getInt(0);
    }

    private static boolean whole(byte[] page) {
        int lane = page[4];
        if (numberOf(page) < 1 || !List.of(1, 3, 4, 5).contains(lane) || !in(page[5], 0, 6)) return false;
        long[] cells = new long[page[5]];
        for (int c = 0; c < cells.length; c++) {
            long told = ByteBuffer.wrap(page).getLong(12 + 8 * c);
            cells[c] = lane == 1 ? (byte) told : lane == 3 ? (short) told : lane == 4 ? (int) told : told;
        }
        return Arrays.equals(page, sheet(numberOf(page), lane, cells));
    }

    private List<Integer> readNow() {
        java.util.TreeMap<Integer, Integer> least = new java.util.TreeMap<>();
        for (int p = 0; p < 20; p++) if (whole(pages[p])) least.putIfAbsent(numberOf(pages[p]), p);
        return new ArrayList<>(least.values());
    }

    int open1() {
        power = NONE;
        dark = false;
        nextPage = 0;
        latest = 0;
        for (int p = 0; p < 20; p++) {
            if (!Arrays.equals(pages[p], new byte[64])) nextPage = p + 1;
            if (whole(pages[p])) latest = Math.max(latest, numberOf(pages[p]));
        }
        return readNow().size();
    }

    long page(int k, int what) {
        List<Integer> read = readNow();
        if (!in(k, 0, read.size() - 1)) return NONE;
        byte[] page = pages[read.get(k)];
        if (what == 0) return read.get(k);
        if (what == 1) return numberOf(page);
        if (what == 2) return page[4];
        if (what == 3) return page[5];
        return in(what, 10, 9 + page[5]) ? ByteBuffer.wrap(page).getLong(12 + 8 * (what - 10)) : NONE;
    }

    int octet(int page, int i) {
        return in(page, 0, 19) && in(i, 0, 63) ? pages[page][i] & 255 : BAD;
    }

    int damage(int page, int i, int mask) {
        if (!in(page, 0, 19) || !in(i, 0, 63) || !in(mask, 0, 255)) return BAD;
        pages[page][i] ^= (byte) mask;
        return pages[page][i] & 255;
    }

    int told(int what) {
        return switch (what) {
            case 0 -> minute;
            case 1 -> made;
            case 2 -> faults;
            case 3 -> latest;
            case 4 -> nextPage;
            case 5 -> dark ? 1 : 0;
            case 6 -> clash();
            case 7 -> days;
            case 8 -> readNow().size();
            case 9 -> plans.stream().mapToInt(List::size).sum();
            case 10 -> laid.size();
            default -> BAD;
        };
    }

    private int clash() {
        int clash = 0;
        for (int p = 0; p < 20; p++) {
            int q = 0;
            while (q < p && !(whole(pages[q]) && numberOf(pages[q]) == numberOf(pages[p]))) q++;
            if (q < p && whole(pages[p]) && !Arrays.equals(pages[p], pages[q])) clash++;
        }
        return clash;
    }

    int fault() {
        return lastFault;
    }
}
