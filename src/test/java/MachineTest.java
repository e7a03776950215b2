import java.util.ArrayList;
import java.util.List;
import java.util.Random;

/**
 * Promises 2 to 31 once more: random calls against arrays and classes as the machine itself has them, whose own
 * exceptions tell which fault is due, and in which order.
 */
public final class MachineTest {
    private static final int BAD = GlassHouse.BAD, NONE = GlassHouse.NONE, FULL = GlassHouse.FULL;
    private static final int CALLS = 160;

    public static void main(String[] args) {
        Random random = new Random(31);
        long[] kinds = new long[10];
        for (int i = 0; i < 2500; i++) oneHouse(random, kinds);
        for (int kind = 1; kind <= 6; kind++) Check.holds("fault " + kind + " came " + kinds[kind] + " times", kinds[kind] > 500);
        Check.end();
    }

    private static void oneHouse(Random random, long[] kinds) {
        GlassHouse x = new GlassHouse();
        Model model = new Model();
        // Few bins, so that calls meet what others have left.
        int bins = 3 + random.nextInt(6);
        for (int i = 0; i < CALLS; i++) {
            int[] r = new int[6];
            for (int k = 0; k < 6; k++) r[k] = random.nextInt(40) == 0 ? wild(random) : random.nextInt(bins);
            // Plants and asks oftener than others, or hardly one would meet a 0.
            int call = random.nextInt(32);
            if (call >= 24) call = call < 27 ? 16 : 18;
            int near = random.nextInt(12) == 0 ? wild(random) : random.nextInt(5);
            int much = random.nextInt(10) == 0 ? wild(random) : random.nextInt(4);
            String told = call + "(" + r[0] + ", " + r[1] + ", " + r[2] + ", " + near + ", " + much + ") as call " + i;
            boolean flag = random.nextBoolean();
            long bits = bits(random);
            int form = form(random, model, r[0]);
            long got = theirs(x, call, r, near, much, flag, bits, form);
            int before = model.faults;
            long want = model.answer(call, r, near, much, flag, bits, form);
            if (model.faults > before) kinds[model.lastFault]++;
            Check.due(told + ", form " + form, got, want);
            Check.due(told + ": fault", x.fault(), model.lastFault);
        }
        compareAll(x, model, bins);
    }

    private static int wild(Random random) {
        int[] some = {-1, -2, 5, 8, 9, 10, 11, 15, 16, 17, 18, 40, 41, Integer.MAX_VALUE, Integer.MIN_VALUE};
        return some[random.nextInt(some.length)];
    }

    private static long bits(Random random) {
        long[] some = {0, 1, -1, 2, 3, 1L << 63, 0x7FC00001L, 0x7FF0000000000001L, 0xFF800000L, 0x80000000L, 70000, 200};
        return random.nextInt(3) == 0 ? random.nextLong() : some[random.nextInt(some.length)];
    }

    /** Mostly the form of what the bin holds, so that not all is a CAST. */
    private static int form(Random random, Model model, int bin) {
        if (random.nextInt(5) > 0 && bin >= 0 && bin < 16 && model.bins[bin] != null) return Model.formOf(model.bins[bin]);
        return random.nextInt(20) - 1;
    }

    private static long theirs(GlassHouse x, int call, int[] r, int near, int much, boolean flag, long bits, int form) {
        switch (call) {
            case 0: return x.row(r[0], form > 7 ? near : form, much);
            case 1: return x.grid(r[0], 8 + near % 4, much, near, flag);
            case 2: return x.storeys(r[0], much);
            case 3: return x.share(r[0], r[1]);
            case 4: return x.is(r[0], near + 10);
            case 5: return x.get(r[0], form, near);
            case 6: return x.put(r[0], form, near, bits);
            case 7: return x.bed(r[0], form, much, near);
            case 8: return x.setBed(r[0], form, much, near, bits);
            case 9: return x.countUp(r[0], much, near, much, flag);
            case 10: return x.set(r[0], near, r[1]);
            case 11: return x.lift(r[1], r[0], near);
            case 12: return x.liftAs(r[1], r[0], near, r[2] + near);
            case 13: return x.shift(r[0], near, r[1], r[2], much);
            case 14: return x.copy(r[1], r[0], flag);
            case 15: return x.alike(r[0], r[1]) * 100L + x.size(r[0], much);
            case 16: return x.plant(r[0], near, (int) bits, much, r[1], r[2]);
            case 17: return x.tray(r[0], 12 + near % 4, much);
            case 18: return x.ask(r[0], flag ? near : near + 3);
            case 19: return x.card(r[0]);
            case 20: return x.field(r[0], near);
            case 21: return x.setField(r[0], near, bits);
            case 22: return x.lead(r[0], much, r[1]);
            default: return x.follow(r[1], r[0], much);
        }
    }

    private static void compareAll(GlassHouse x, Model model, int bins) {
        Check.due("things", x.told(1), model.things);
        Check.due("faults", x.told(2), model.faults);
        Check.due("came", x.came(), model.came);
        Check.due("answer", x.answer(), model.told);
        for (int i = 0; i < 12; i++) Check.due("trace", x.trace(i), i < model.trace.size() ? model.trace.get(i) : NONE);
        for (int one = 0; one < bins; one++) {
            Check.due("form", x.form(one), model.bins[one] == null ? NONE : Model.formOf(model.bins[one]));
            for (int two = 0; two < bins; two++) Check.due("alike", x.alike(one, two), model.alike(one, two));
        }
    }

    /** What a call does, as the machine would do it. */
    private static final class Model {
        final Object[] bins = new Object[16];
        final List<Integer> trace = new ArrayList<>();
        int things;
        int faults;
        int lastFault;
        int came;
        int told;
        int plants;
        int cards;

        long answer(int call, int[] r, int near, int much, boolean flag, long bits, int form) {
            boolean tellsBits = call == 5 || call == 7 || call == 9 || call == 20;
            try {
                return act(call, r, near, much, flag, bits, form);
            } catch (ClassCastException e) {
                return fault(4, tellsBits);
            } catch (NullPointerException e) {
                return fault(1, tellsBits);
            } catch (ArrayIndexOutOfBoundsException e) {
                return fault(2, tellsBits);
            } catch (NegativeArraySizeException e) {
                return fault(3, tellsBits);
            } catch (ArrayStoreException e) {
                return fault(5, tellsBits);
            } catch (ArithmeticException e) {
                return fault(6, tellsBits);
            }
        }

        private long fault(int kind, boolean tellsBits) {
            faults++;
            lastFault = kind;
            return tellsBits ? 0 : -10 - kind;
        }

        private long act(int call, int[] r, int near, int much, boolean flag, long bits, int form) {
            boolean two = isBin(r[0]) && isBin(r[1]);
            switch (call) {
                case 0: return row(r[0], form > 7 ? near : form, much);
                case 1: return grid(r[0], 8 + near % 4, much, near, flag);
                case 2: return isBin(r[0]) && much <= 4 ? made(r[0], new int[much][][], 1) : BAD;
                case 3: return isBin(r[0]) && (isBin(r[1]) || r[1] == NONE) ? gets(r[0], r[1] == NONE ? null : bins[r[1]]) : BAD;
                case 4: return isBin(r[0]) && near + 10 >= 0 && near + 10 < 18 ? is(bins[r[0]], near + 10) : BAD;
                case 5: return isBin(r[0]) && isLane(form) ? get(bins[r[0]], form, near) : 0;
                case 6: return isBin(r[0]) && isLane(form) ? put(bins[r[0]], form, near, bits) : BAD;
                case 7: return isBin(r[0]) && form >= 8 && form <= 10 ? get(bay(r[0], form, much), laneOf(form), near) : 0;
                case 8: return isBin(r[0]) && form >= 8 && form <= 10 ? put(bay(r[0], form, much), laneOf(form), near, bits) : BAD;
                case 9: return isBin(r[0]) ? countUp(r[0], much, near, much, flag) : 0;
                case 10: return two ? set(r[0], near, r[1]) : BAD;
                case 11: return two ? gets(r[1], ((Object[]) bins[r[0]])[near]) : BAD;
                case 12: return two && r[2] + near >= 0 && r[2] + near < 18
                    ? gets(r[1], takenFor(((Object[]) bins[r[0]])[near], r[2] + near)) : BAD;
                case 13: return two ? shift(r[0], near, r[1], r[2], much) : BAD;
                case 14: return two ? gets(r[1], copyOf(bins[r[0]], flag)) : BAD;
                case 15: return alike(r[0], r[1]) * 100L + sizeOrFault(r[0], much);
                case 16: return plant(r[0], near, (int) bits, much, r[1], r[2]);
                case 17: return tray(r[0], 12 + near % 4, much);
                case 18: {
                    int what = flag ? near : near + 3;
                    return isBin(r[0]) && what >= 0 && what < 8 ? ask(bins[r[0]], what) : BAD;
                }
                case 19: return isBin(r[0]) ? card(r[0]) : BAD;
                case 20: return isBin(r[0]) && isLane(near) ? get(((Card) bins[r[0]]).fields[near], near, 0) : 0;
                case 21: return isBin(r[0]) && isLane(near) ? put(((Card) bins[r[0]]).fields[near], near, 0, bits) : BAD;
                case 22: return two && (much == 0 || much == 1) ? lead(r[0], much, r[1]) : BAD;
                default: return two && (much == 0 || much == 1) ? follow(r[1], r[0], much) : BAD;
            }
        }

        static boolean isBin(int bin) {
            return bin >= 0 && bin < 16;
        }

        static boolean isLane(int lane) {
            return lane >= 0 && lane < 8;
        }

        static int laneOf(int form) {
            return form == 8 ? 3 : form == 9 ? 4 : 7;
        }

        static int formOf(Object thing) {
            for (int form = 0; form < 18; form++) {
                if (thing.getClass() == classOf(form)) return form;
            }
            return thing instanceof Growth ? 16 : NONE;
        }

        static Class<?> classOf(int form) {
            Class<?>[] classes = {boolean[].class, byte[].class, char[].class, short[].class, int[].class, long[].class,
                float[].class, double[].class, short[][].class, int[][].class, double[][].class, int[][][].class, Plant[].class,
                Tomato[].class, Herb[].class, Thirsts[].class, Growth.class, Card.class};
            return classes[form];
        }

        private static Object takenFor(Object thing, int form) {
            // Trays themselves: the machine would take a TRAY for TOMATOES for one for PLANTS, the document does not.
            if (thing != null && form != 16 && thing.getClass() != classOf(form)) throw new ClassCastException();
            return classOf(form).cast(thing);
        }

        private long gets(int bin, Object thing) {
            bins[bin] = thing;
            return 1;
        }

        private long made(int bin, Object thing, int many) {
            things += many;
            return gets(bin, thing);
        }

        private static Object newRow(int lane, int n) {
            switch (lane) {
                case 0: return new boolean[n];
                case 1: return new byte[n];
                case 2: return new char[n];
                case 3: return new short[n];
                case 4: return new int[n];
                case 5: return new long[n];
                case 6: return new float[n];
                default: return new double[n];
            }
        }

        private long row(int bin, int lane, int n) {
            return isBin(bin) && isLane(lane) && n <= 40 ? made(bin, newRow(lane, n), 1) : BAD;
        }

        private long grid(int bin, int form, int a, int n, boolean bare) {
            if (!isBin(bin) || form < 8 || form > 10 || a > 10 || n > 40) return BAD;
            if (bare) return made(bin, form == 8 ? new short[a][] : form == 9 ? new int[a][] : new double[a][], 1);
            return made(bin, form == 8 ? new short[a][n] : form == 9 ? new int[a][n] : new double[a][n], 1 + Math.max(a, 0));
        }

        private static int is(Object thing, int form) {
            if (thing == null) return 0;
            if (form == 16) return thing instanceof Growth ? 1 : 0;
            if (thing instanceof Growth && form >= 12 && form < 16) return classOf(form).getComponentType().isInstance(thing) ? 1 : 0;
            return thing.getClass() == classOf(form) ? 1 : 0;
        }

        private static long get(Object row, int lane, int i) {
            switch (lane) {
                case 0: return ((boolean[]) row)[i] ? 1 : 0;
                case 1: return ((byte[]) row)[i];
                case 2: return ((char[]) row)[i];
                case 3: return ((short[]) row)[i];
                case 4: return ((int[]) row)[i];
                case 5: return ((long[]) row)[i];
                case 6: return Float.floatToIntBits(((float[]) row)[i]);
                default: return Double.doubleToLongBits(((double[]) row)[i]);
            }
        }

        private static long put(Object row, int lane, int i, long bits) {
            switch (lane) {
                case 0: ((boolean[]) row)[i] = (bits & 1) == 1; break;
                case 1: ((byte[]) row)[i] = (byte) bits; break;
                case 2: ((char[]) row)[i] = (char) bits; break;
                case 3: ((short[]) row)[i] = (short) bits; break;
                case 4: ((int[]) row)[i] = (int) bits; break;
                case 5: ((long[]) row)[i] = bits; break;
                case 6: ((float[]) row)[i] = Float.intBitsToFloat((int) bits); break;
                default: ((double[]) row)[i] = Double.longBitsToDouble(bits); break;
            }
            return 1;
        }

        private Object bay(int bin, int form, int i) {
            return ((Object[]) takenFor(bins[bin], form))[i];
        }

        private long countUp(int bin, int s, int i, int j, boolean after) {
            int[][][] storeys = (int[][][]) bins[bin];
            return after ? ++storeys[s][i][j] : storeys[s][i][j]++;
        }

        private long set(int bin, int i, int from) {
            ((Object[]) bins[bin])[i] = bins[from];
            return 1;
        }

        private long shift(int bin, int i, int other, int j, int n) {
            came = 0;
            Object from = bins[bin];
            Object to = bins[other];
            if (!(from instanceof Object[]) || !(to instanceof Object[]) || from == to) {
                System.arraycopy(from, i, to, j, n);
                came = n;
                return n;
            }
            // The machine checks the numbers ahead of the first place; then one comes behind another.
            System.arraycopy(new Object[((Object[]) from).length], i, new Object[((Object[]) to).length], j, n);
            for (int k = 0; k < n; k++) {
                ((Object[]) to)[j + k] = ((Object[]) from)[i + k];
                came++;
            }
            return n;
        }

        private Object copyOf(Object thing, boolean deep) {
            if (thing == null || thing instanceof Growth) return thing;
            things++;
            if (thing instanceof Card) {
                Card card = new Card(cards++);
                for (int lane = 0; lane < 8; lane++) put(card.fields[lane], lane, 0, get(((Card) thing).fields[lane], lane, 0));
                card.next = ((Card) thing).next;
                card.leaf = ((Card) thing).leaf;
                return card;
            }
            if (!(thing instanceof Object[])) {
                int n = java.lang.reflect.Array.getLength(thing);
                Object row = newRow(formOf(thing), n);
                System.arraycopy(thing, 0, row, 0, n);
                return row;
            }
            Object[] twin = ((Object[]) thing).clone();
            for (int i = 0; deep && i < twin.length; i++) twin[i] = copyOf(twin[i], true);
            return twin;
        }

        int alike(int one, int two) {
            if (!isBin(one) || !isBin(two)) return BAD;
            return bins[one] == bins[two] ? 2 : alike(bins[one], bins[two]) ? 1 : 0;
        }

        private static boolean alike(Object one, Object two) {
            if (one == two) return true;
            if (one == null || two == null || one.getClass() != two.getClass() || one instanceof Growth) return false;
            if (one instanceof Card) {
                Card a = (Card) one;
                Card b = (Card) two;
                for (int lane = 0; lane < 8; lane++) if (get(a.fields[lane], lane, 0) != get(b.fields[lane], lane, 0)) return false;
                return a.next == b.next && a.leaf == b.leaf;
            }
            int n = java.lang.reflect.Array.getLength(one);
            if (n != java.lang.reflect.Array.getLength(two)) return false;
            for (int i = 0; i < n; i++) {
                if (one instanceof Object[] ? !alike(((Object[]) one)[i], ((Object[]) two)[i])
                    : get(one, formOf(one), i) != get(two, formOf(one), i)) return false;
            }
            return true;
        }

        private long sizeOrFault(int bin, int what) {
            if (!isBin(bin) || what < 0 || what > 1) return BAD;
            Object thing = bins[bin];
            if (thing instanceof Growth || thing instanceof Card) return fault(4, false);
            if (thing == null) return fault(1, false);
            if (what == 0) return java.lang.reflect.Array.getLength(thing);
            int empty = 0;
            if (thing instanceof Object[]) for (Object place : (Object[]) thing) if (place == null) empty++;
            return empty;
        }

        private long plant(int bin, int kind, int a, int b, int p, int q) {
            if (!isBin(bin) || kind < 0 || kind > 5) return BAD;
            if (kind == 2 && (!isBin(p) || !isBin(q))) return BAD;
            Growth one = kind == 2 ? (Growth) bins[p] : null;
            Growth two = kind == 2 ? (Growth) bins[q] : null;
            Growth made = kind == 0 ? new Herb(this) : kind == 1 ? new Tomato(this) : kind == 2 ? new Graft(this, one, two)
                : kind == 3 ? new Cress(this) : kind == 4 ? new Probe(this) : new Valve(this);
            if (made.depth() > 4) return FULL;
            made.a = a;
            made.b = b;
            made.kind = kind;
            made.number = plants++;
            made(bin, made, 1);
            return made.number;
        }

        private long tray(int bin, int form, int n) {
            if (!isBin(bin) || form < 12 || form > 15 || n > 8) return BAD;
            return made(bin, form == 12 ? new Plant[n] : form == 13 ? new Tomato[n] : form == 14 ? new Herb[n] : new Thirsts[n], 1);
        }

        private long ask(Object thing, int what) {
            trace.clear();
            Growth asked = (Growth) thing;
            switch (what) {
                case 0: told = asked.size(); break;
                case 1: told = ((Thirsts) asked).thirst(); break;
                case 2: told = ((Costs) asked).cost(); break;
                case 3: told = asked.mark(); break;
                case 4: told = asked.first; break;
                case 5: told = asked.number; break;
                case 6: told = asked.kind; break;
                default: told = asked.depth(); break;
            }
            return 1;
        }

        private long card(int bin) {
            made(bin, new Card(cards), 1);
            return cards++;
        }

        private long lead(int bin, int what, int from) {
            Card card = (Card) bins[bin];
            if (what == 0) card.next = (Card) bins[from];
            else card.leaf = (Growth) bins[from];
            return 1;
        }

        private long follow(int bin, int from, int what) {
            Card card = (Card) bins[from];
            return gets(bin, what == 0 ? card.next : card.leaf);
        }
    }

    private static final class Card {
        final int number;
        final Object[] fields = {new boolean[1], new byte[1], new char[1], new short[1], new int[1], new long[1], new float[1],
            new double[1]};
        Card next;
        Growth leaf;

        Card(int number) {
            this.number = number;
        }
    }

    private interface Thirsts {
        int size();

        Model model();

        default int thirst() {
            model().trace.add(10);
            return 3 + size();
        }
    }

    private interface Costs {
        int ownA();

        Model model();

        default int cost() {
            model().trace.add(20);
            return 5000 / ownA();
        }
    }

    private abstract static class Growth {
        final Model model;
        final int first;
        int kind;
        int number;
        int a;
        int b;

        Growth(Model model) {
            this.model = model;
            List<Integer> before = new ArrayList<>(model.trace);
            first = mark();
            model.trace.clear();
            model.trace.addAll(before);
        }

        public Model model() {
            return model;
        }

        public int ownA() {
            return a;
        }

        public int size() {
            model.trace.add(1);
            return a;
        }

        int mark() {
            model.trace.add(30);
            return 7;
        }

        int depth() {
            return 0;
        }
    }

    private abstract static class Plant extends Growth {
        Plant(Model model) {
            super(model);
        }
    }

    private static class Herb extends Plant implements Costs {
        Herb(Model model) {
            super(model);
        }
    }

    private static class Tomato extends Plant implements Thirsts, Costs {
        Tomato(Model model) {
            super(model);
        }

        @Override
        public int size() {
            model.trace.add(2);
            return 2 * super.size() + b;
        }

        @Override
        public int thirst() {
            model.trace.add(11);
            return 2 * Thirsts.super.thirst();
        }
    }

    private static final class Graft extends Tomato {
        private final Growth one;
        private final Growth two;

        Graft(Model model, Growth one, Growth two) {
            super(model);
            this.one = one;
            this.two = two;
        }

        @Override
        public int size() {
            model.trace.add(3);
            return one.size() + two.size() + super.size();
        }

        @Override
        int mark() {
            model.trace.add(31);
            return 9 + b;
        }

        @Override
        int depth() {
            return 1 + Math.max(one == null ? 0 : one.depth(), two == null ? 0 : two.depth());
        }
    }

    private static final class Cress extends Herb implements Thirsts {
        Cress(Model model) {
            super(model);
        }

        @Override
        public int size() {
            model.trace.add(4);
            return super.size() / b;
        }

        @Override
        public int cost() {
            model.trace.add(21);
            return super.cost() + thirst();
        }
    }

    private static final class Probe extends Growth implements Costs {
        Probe(Model model) {
            super(model);
        }
    }

    private static final class Valve extends Growth implements Thirsts {
        Valve(Model model) {
            super(model);
        }

        @Override
        public int thirst() {
            model.trace.add(12);
            return b;
        }
    }
}
