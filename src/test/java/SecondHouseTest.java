import java.lang.reflect.Method;
import java.util.Arrays;
import java.util.HashMap;
import java.util.Map;
import java.util.Random;

/** Random calls of the whole face, a part of it at a time, against a second reading of the whole document. */
public final class SecondHouseTest {
    private static final int CALLS = 512;
    private static final Map<String, Method> FIRST = new HashMap<>();
    private static final Map<String, Method> SECOND = new HashMap<>();
    private static final Map<String, String> ARGUMENTS = new HashMap<>();

    private final int seed;
    private final Random random;
    private final GlassHouse house = new GlassHouse();
    private final SecondHouse second = new SecondHouse();
    private int calls;

    private SecondHouseTest(int seed) {
        this.seed = seed;
        random = new Random(seed);
    }

    public static void main(String[] args) throws ReflectiveOperationException {
        for (Method m : GlassHouse.class.getMethods()) {
            if (m.getDeclaringClass() == GlassHouse.class) FIRST.put(m.getName(), m);
        }
        for (Method m : SecondHouse.class.getDeclaredMethods()) {
            if (FIRST.containsKey(m.getName()) && Arrays.equals(m.getParameterTypes(), FIRST.get(m.getName()).getParameterTypes())) {
                SECOND.put(m.getName(), m);
            }
        }
        Check.due("calls that both have", SECOND.size(), 74);
        tellArguments();
        Check.due("calls whose arguments are told", ARGUMENTS.size(), 74);
        int runs = args.length > 0 ? Integer.parseInt(args[0]) : 2000;
        for (int seed = 0; seed < runs; seed++) {
            new SecondHouseTest(seed).go();
            Check.soFar();
        }
        Check.end();
    }

    /** For each call a letter for each argument; argument() knows what they are. */
    private static void tellArguments() {
        String told = "row:blc grid:bgcct storeys:bc share:bB form:b is:bf get:bli put:blix bed:bgii setBed:bgiix countUp:biiit "
            + "set:bib lift:bbi liftAs:bbif shift:bibii came: copy:bbt alike:bb size:b2 plant:bkvvbb tray:byc ask:b8 answer: "
            + "trace:i card:b field:bl setField:blx lead:b2b follow:bb2 led:b3 step:5ovvv drop:5 formed:5 run:5 ran:9 stock:6 "
            + "setStock:6x valve:32 line:3pp rest:3T value:3p laid:5 read:9r part:r probe:95 voted:3 weather:5w mark:3mp "
            + "unmark:3 wish:3m minute:n air:3i shares:bub quotient:6xx2 compare:Lbibi real:Lb5 wholeMean:b salt:63s work: "
            + "worked:55 count:25u parts:25aaa day:n spray:2 pest:25 wait1: write:b power:P open1: page:ii octet:zi damage:ziM "
            + "told:i fault:";
        for (String one : told.split(" ")) {
            int colon = one.indexOf(':');
            ARGUMENTS.put(one.substring(0, colon), one.substring(colon + 1));
        }
    }

    private void go() throws ReflectiveOperationException {
        int first = random.nextInt(9);
        int other = random.nextInt(9);
        if (random.nextInt(20) == 0) flood();
        while (calls < CALLS - 90) {
            int draw = random.nextInt(20);
            move(draw == 0 ? random.nextInt(9) : draw < 14 ? first : other);
        }
        look();
    }

    private void move(int part) throws ReflectiveOperationException {
        switch (part) {
            case 0: rows(); break;
            case 1: plants(); break;
            case 2: acts(); break;
            case 3: any("line line rest value laid told"); break;
            case 4: probes(); break;
            case 5: air(); break;
            case 6: water(); break;
            case 7: any("count parts parts day day spray pest pest wait1 told"); break;
            default: pages(); break;
        }
    }

    // ---- moves

    private void rows() throws ReflectiveOperationException {
        any("row grid grid storeys share form is get put put bed setBed setBed countUp countUp set set lift liftAs shift shift came copy"
            + " alike alike size tray plant fault");
    }

    private void plants() throws ReflectiveOperationException {
        any("plant plant plant plant tray set set lift shift came ask ask ask ask answer trace trace trace card card field setField"
            + " lead lead lead follow led led led copy alike share is fault");
    }

    private void probes() throws ReflectiveOperationException {
        if (random.nextInt(3) == 0) call("minute", 1 + random.nextInt(3));
        else any("read read read read part probe probe probe voted minute");
    }

    private void air() throws ReflectiveOperationException {
        if (random.nextInt(30) == 0) call("unmark", random.nextInt(3));
        else any("weather weather mark mark wish minute minute air air air read read line value");
    }

    private void water() throws ReflectiveOperationException {
        int bin = random.nextInt(4);
        switch (random.nextInt(5)) {
            case 0:
                call("row", bin, random.nextBoolean() ? 4 : 6 + random.nextInt(2), random.nextInt(8));
                for (int i = 0; i < 5; i++) call("put", bin, second.form(bin), i, argument('x'));
                break;
            case 1:
                for (int salt = 0; salt < 6; salt++) {
                    if (random.nextInt(3) > 0) call("salt", salt, random.nextInt(3), random.nextInt(random.nextBoolean() ? 4 : 100));
                }
                call("work");
                for (int what = 0; what < 4; what++) call("worked", what, random.nextInt(4));
                break;
            default:
                any("shares shares get quotient quotient compare compare real real real wholeMean answer salt work worked worked");
        }
    }

    private void pages() throws ReflectiveOperationException {
        int bin = random.nextInt(4);
        switch (random.nextInt(8)) {
            case 0: case 1:
                call("row", bin, new int[] {1, 3, 4, 5}[random.nextInt(4)], random.nextInt(8));
                call("put", bin, second.form(bin), 0, argument('x'));
                call("write", bin);
                break;
            case 2: call("power", random.nextInt(4) == 0 ? argument('P') : random.nextInt(200)); break;
            case 3: call("open1"); break;
            case 4: if (calls < CALLS - 110) forge(); break;
            default: any("write write page page page octet damage told told told power");
        }
    }

    /** Changes a page and mends its SUM. */
    private void forge() throws ReflectiveOperationException {
        int page = random.nextInt(Math.min(20, 1 + second.told(4)));
        int at = random.nextInt(4) == 0 ? random.nextInt(60) : new int[] {0, 3, 3, 3, 4, 5, 12, 19}[random.nextInt(8)];
        call("damage", page, at, random.nextInt(4) == 0 ? random.nextInt(256) : 1 << random.nextInt(3));
        int s = 0;
        for (int i = 0; i < 60; i++) s = Integer.rotateLeft(s ^ second.octet(page, i), 11) * 0xC2B2AE35;
        for (int i = 0; i < 4; i++) call("damage", page, 60 + i, second.octet(page, 60 + i) ^ s >>> 24 - 8 * i & 255);
        call("told", 6);
        call("told", 8);
    }

    /** Comes up to the limit of FAULTS or of THINGS, or just short of it. */
    private void flood() throws ReflectiveOperationException {
        boolean byThings = random.nextBoolean();
        if (byThings) {
            call("storeys", 15, 4);
            call("grid", 14, 9, 10, 2, false);
            for (int i = 0; i < 4; i++) call("set", 15, i, 14);
            for (int i = 0; i < 88 && second.told(1) < 4000; i++) call("copy", 13, 15, true);
        } else {
            int[] ops = {20, 16, 7, 0, 17, 0, 0};
            call("drop", 0);
            for (int op : ops) call("step", 0, op, 0, 0, 0);
            call("setStock", 0, 1L);
            for (int i = 0; i < 30 && second.told(2) < 2950; i++) call("run", 0);
        }
        for (int i = random.nextInt(80); i > 0; i--) {
            if (byThings) call("row", 13, 4, 0);
            else call("row", 13, 4, -1);
        }
        call("told", byThings ? 1 : 2);
    }

    // ---- plans

    private void acts() throws ReflectiveOperationException {
        if (random.nextInt(3) == 0) {
            any("step step run drop formed ran stock setStock valve get field put row card plant trace fault share");
            return;
        }
        if (random.nextInt(2) == 0) {
            int plan = random.nextInt(4);
            call("drop", plan);
            body(plan, 0, 3 + random.nextInt(35));
            call("formed", plan);
        }
        for (int i = 0; i < 2; i++) call("setStock", random.nextInt(6), (long) random.nextInt(12) - 2);
        int bin = random.nextInt(5);
        switch (random.nextInt(4)) {
            case 0: call("row", bin, 4, random.nextInt(5)); break;
            case 1: call("card", bin); break;
            case 2: call("plant", bin, random.nextInt(6), random.nextInt(3), random.nextInt(3), random.nextInt(5), random.nextInt(5)); break;
            default: break;
        }
        call("run", random.nextInt(4));
        for (int what = 0; what < 9; what++) call("ran", what);
        for (int k = 0; k < 6; k += 1 + random.nextInt(2)) call("stock", k);
        call("get", bin, 4, random.nextInt(4));
        call("field", bin, 4);
        call("trace", random.nextInt(3));
        call("valve", random.nextInt(3), 0);
        call("fault");
    }

    /** Steps of a body, with their own bodies: how many of those that it may have are left. */
    private int body(int plan, int depth, int may) throws ReflectiveOperationException {
        int left = may;
        int many = 1 + random.nextInt(4);
        for (int i = 0; i < many && left > 0 && calls < CALLS; i++) {
            int op = 1 + random.nextInt(20);
            if (op < 11 || op == 17 || op == 18 || depth > 6 || left < 3) {
                plain(plan, op < 11 ? op : 1 + random.nextInt(10));
                left--;
                continue;
            }
            left = whole(plan, op, depth, left - 2);
            if (op != 16) continue;
            for (int k = 0; k < 3 && left >= 3 && random.nextInt(5) > k; k++) left = whole(plan, 17, depth, left - 2);
            if (left >= 3 && random.nextBoolean()) left = whole(plan, 18, depth, left - 2);
        }
        return left;
    }

    private int whole(int plan, int op, int depth, int may) throws ReflectiveOperationException {
        int a = random.nextInt(op == 17 ? 9 : op == 15 ? 5 : op == 11 || op == 13 ? 3 : 6);
        if (op == 17 && random.nextBoolean()) a = 0;
        if (random.nextInt(30) == 0) a = random.nextInt(14) - 2;
        call("step", plan, op, a, random.nextInt(5) - (random.nextInt(12) == 0 ? 3 : 0), random.nextInt(9));
        int left = random.nextInt(12) == 0 ? may : body(plan, depth + 1, may);
        call("step", plan, 0, 0, 0, 0);
        return left;
    }

    private void plain(int plan, int op) throws ReflectiveOperationException {
        int a = random.nextInt(op == 9 ? 3 : op == 10 ? 4 : 5);
        if (random.nextInt(25) == 0) a = random.nextInt(24) - 2;
        int b = random.nextInt(5) - (random.nextInt(3) == 0 ? 4 : 0);
        if (op == 6) b = random.nextInt(random.nextInt(9) == 0 ? 6 : 4);
        if (op == 8 && random.nextInt(3) > 0) op = 7;
        call("step", plan, op, a, b, random.nextInt(7));
    }

    // ---- calls

    private void any(String names) throws ReflectiveOperationException {
        String[] all = names.split(" ");
        String name = all[random.nextInt(all.length)];
        String kinds = ARGUMENTS.get(name);
        Object[] arguments = new Object[kinds.length()];
        for (int i = 0; i < arguments.length; i++) arguments[i] = argument(kinds.charAt(i));
        call(name, arguments);
    }

    private void call(String name, Object... arguments) throws ReflectiveOperationException {
        if (calls >= CALLS) return;
        calls++;
        long want = ((Number) SECOND.get(name).invoke(second, arguments)).longValue();
        long got = ((Number) FIRST.get(name).invoke(house, arguments)).longValue();
        if (got == want) Check.due("", 1, 1);
        else Check.due("run " + seed + ", call " + calls + ": " + name + Arrays.toString(arguments), got, want);
    }

    private void look() throws ReflectiveOperationException {
        for (int what = 0; what < 11; what++) call("told", what);
        call("fault");
        for (int bin = 0; bin < 6; bin++) {
            call("form", bin);
            call("alike", bin, (bin + 1) % 6);
            int form = second.form(bin);
            if (form >= 0 && form < 8) call("get", bin, form, 0);
            if (form == 17) call("led", bin, 1);
        }
        for (int plan = 0; plan < 4; plan++) call("formed", plan);
        for (int k = 0; k < 6; k++) call("stock", k);
        for (int h = 0; h < 3; h++) {
            call("voted", h);
            for (int what = 0; what < 6; what++) call("air", h, what);
        }
        for (int probe = 0; probe < 9; probe++) call("probe", probe, random.nextInt(5));
        for (int k = 0; k < 4; k++) call("page", k, random.nextInt(14));
        for (int what = 0; what < 4; what++) call("worked", what, random.nextInt(4));
    }

    private Object argument(char kind) {
        switch (kind) {
            case 't': return random.nextBoolean();
            case 'x': return wide();
            case 'r': return reading();
            default: break;
        }
        if (random.nextInt(40) == 0) return new int[] {-1, -2, 16, 40, 41, 100, 101, 1440, Integer.MAX_VALUE, Integer.MIN_VALUE}[random.nextInt(10)];
        switch (kind) {
            case 'b': return random.nextInt(random.nextInt(10) == 0 ? 17 : 6);
            case 'B': return random.nextInt(8) - 1;
            case 'l': return random.nextInt(3) == 0 ? 4 : random.nextInt(8);
            case 'L': return 6 + random.nextInt(2);
            case 'g': return random.nextInt(2) == 0 ? 9 : 8 + random.nextInt(3);
            case 'y': return 12 + random.nextInt(4);
            case 'f': return random.nextInt(18);
            case 'c': return random.nextInt(random.nextInt(9) == 0 ? 42 : 5) - (random.nextInt(20) == 0 ? 2 : 0);
            case 'i': return random.nextInt(random.nextInt(6) == 0 ? 64 : 4);
            case 'k': return random.nextInt(3) == 0 ? 2 : random.nextInt(6);
            case 'v': return random.nextInt(4) == 0 ? random.nextInt() : random.nextInt(7) - 1;
            case 'o': return random.nextInt(21);
            case 'p': return random.nextInt(5) == 0 ? random.nextInt(2000003) - 1000001 : random.nextInt(121) * 500 - 10000;
            case 'T': return random.nextInt(4) - 1;
            case 'w': return random.nextInt(4) == 0 ? random.nextInt(110000) - 45000 : random.nextInt(3) == 0 ? random.nextInt(1001) : random.nextInt(2);
            case 'm': return random.nextInt(4) == 0 ? random.nextInt(1440) : random.nextInt(200);
            case 'n': return 1 + random.nextInt(random.nextInt(4) == 0 ? 100 : 6);
            case 'u': return random.nextInt(3) == 0 ? random.nextInt(1000000001) : random.nextInt(60);
            case 's': return random.nextInt(random.nextInt(4) == 0 ? 1001 : 100);
            case 'a': return random.nextInt(3) == 0 ? random.nextInt(5) * 250 : random.nextInt(1002);
            case 'P': return random.nextInt(203) - 1;
            case 'z': return random.nextInt(random.nextInt(4) == 0 ? 21 : 4);
            case 'M': return random.nextInt(257);
            default: return random.nextInt(kind - '0');
        }
    }

    private long wide() {
        switch (random.nextInt(8)) {
            case 0: return random.nextLong();
            case 1: return random.nextInt();
            case 2: return Double.doubleToRawLongBits((random.nextInt(41) - 20) / 4.0);
            case 3: return Float.floatToRawIntBits((random.nextInt(41) - 20) / 4.0f);
            case 4: return new long[] {Long.MIN_VALUE, Long.MAX_VALUE, 0x7FF0000000000000L, 0xFFF0000000000000L, 0x7FF0000000000001L,
                -1L, 0x7F800000L, 0xFF800000L, 0x7F800001L, 1L, 0x80000000L, 0x800000L, 0x7FFFFFL}[random.nextInt(13)];
            case 5: return Double.doubleToRawLongBits(random.nextGaussian() * Math.pow(10, random.nextInt(600) - 300));
            default: return random.nextInt(9);
        }
    }

    private long reading() {
        switch (random.nextInt(12)) {
            case 0: return wide();
            case 1: return Double.doubleToRawLongBits(Double.NaN);
            case 2: return Double.doubleToRawLongBits(random.nextBoolean() ? 0.0 : -0.0);
            case 3: return Double.doubleToRawLongBits(random.nextGaussian() * 40);
            default: return Double.doubleToRawLongBits(18 + random.nextInt(6));
        }
    }
}
