import java.util.Random;

/** Promises 62 to 67: pests. */
public final class PestsTest {
    private static final int BAD = GlassHouse.BAD, FULL = GlassHouse.FULL;
    private static final int MOST = 1000000000;

    public static void main(String[] args) {
        keepsNumbers();
        passesDays();
        sprays();
        cutsToTheMost();
        countsDays();
        Random random = new Random(62);
        for (int i = 0; i < 400; i++) oneYear(random);
        Check.end();
    }

    private static void keepsNumbers() {
        GlassHouse x = new GlassHouse();
        for (int pest = 0; pest < 2; pest++) {
            for (int stage = 0; stage < 4; stage++) {
                Check.due("count", x.count(pest, stage, MOST - pest * 4 - stage), 1);
            }
        }
        for (int pest = 0; pest < 2; pest++) {
            for (int stage = 0; stage < 4; stage++) Check.due("pest", x.pest(pest, stage), MOST - pest * 4 - stage);
        }
        Check.all("bad", new long[] {x.count(2, 0, 0), x.count(-1, 0, 0), x.count(0, 4, 0), x.count(0, -1, 0), x.count(0, 0, -1),
            x.count(0, 0, MOST + 1), x.pest(2, 0), x.pest(0, 4), x.pest(-1, 0), x.pest(0, -1)}, BAD, BAD, BAD, BAD, BAD, BAD, BAD,
            BAD, BAD, BAD);
        Check.all("bad parts", new long[] {x.parts(2, 0, 0, 0, 0), x.parts(-1, 0, 0, 0, 0), x.parts(0, 4, 0, 0, 0), x.parts(0, -1, 0, 0, 0),
            x.parts(0, 0, 1001, 0, 0), x.parts(0, 0, -1, 0, 0), x.parts(0, 0, 0, 1001, 0), x.parts(0, 0, 0, -1, 0),
            x.parts(0, 0, 0, 0, 1001), x.parts(0, 0, 0, 0, -1)}, BAD, BAD, BAD, BAD, BAD, BAD, BAD, BAD, BAD, BAD);
        Check.due("parts", x.parts(1, 3, 1000, 1000, 1000), 1);
        Check.due("none", x.count(1, 3, 0) * 10 + x.pest(1, 3), 10);
    }

    private static void passesDays() {
        GlassHouse x = new GlassHouse();
        x.parts(0, 0, 1000, 500, 0);
        x.parts(0, 1, 400, 600, 900);
        x.parts(0, 2, 0, 1000, 0);
        x.parts(0, 3, 1000, 999, 150);
        for (int stage = 0; stage < 4; stage++) x.count(0, stage, 5);
        Check.due("day", x.day(1), 1);
        // 5 by (1000, 500, 500): 2.5, 1.25, 1.25 are 3, 1, 1; by (400, 600, 1000): 1, 1.5, 2.5 are 1, 2, 2;
        // by (0, 1000, 1000): 0, 3, 2; by (1000, 999, 1): 2.5, 2.4975, 0.0025 are 3, 2, 0; young 5 * 150 / 100
        Check.all("stages", new long[] {x.pest(0, 0), x.pest(0, 1), x.pest(0, 2), x.pest(0, 3)}, 1 + 7, 2 + 3, 3 + 1, 2);
        Check.due("the other pest", x.pest(1, 0), 0);
        Check.due("without parts all are gone", x.count(1, 2, 9) + x.day(1) + x.pest(1, 2) + x.pest(1, 3), 3);
    }

    private static void sprays() {
        GlassHouse x = new GlassHouse();
        Check.due("there is picking", x.wait1(), 0);
        for (int stage = 0; stage < 4; stage++) {
            x.count(0, stage, 7 + stage);
            x.count(1, stage, 100);
            x.parts(0, stage, 0, 1000, 0);
        }
        Check.due("spray", x.spray(0), 1);
        Check.all("a fourth", new long[] {x.pest(0, 0), x.pest(0, 1), x.pest(0, 2), x.pest(0, 3), x.pest(1, 0)}, 1, 2, 2, 2, 100);
        Check.due("wait", x.wait1(), 7);
        x.day(5);
        Check.due("wait", x.wait1(), 2);
        x.spray(1);
        Check.due("anew", x.wait1(), 7);
        x.day(7);
        Check.due("over", x.wait1(), 0);
        x.day(1);
        Check.due("over", x.wait1(), 0);
        Check.due("bad", x.spray(2), BAD);
        Check.due("bad", x.spray(-1), BAD);
        Check.due("still over", x.wait1(), 0);
    }

    private static void cutsToTheMost() {
        GlassHouse x = new GlassHouse();
        x.parts(0, 3, 0, 1000, 1000);
        x.parts(0, 0, 1000, 1000, 0);
        x.parts(0, 1, 0, 1000, 0);
        x.count(0, 3, MOST);
        x.count(0, 0, MOST);
        x.count(0, 1, MOST);
        x.day(1);
        Check.all("cut", new long[] {x.pest(0, 0), x.pest(0, 1), x.pest(0, 3)}, MOST, MOST, MOST / 2);
    }

    private static void countsDays() {
        GlassHouse x = new GlassHouse();
        Check.all("bad", new long[] {x.day(0), x.day(51), x.day(-1)}, BAD, BAD, BAD);
        for (int i = 1; i < 200; i++) Check.due("days", x.day(50), 50 * i);
        Check.due("up to the last", x.day(49), 9999);
        Check.due("above", x.day(2), FULL);
        Check.due("the last", x.day(1), 10000);
        Check.due("full", x.day(1), FULL);
        Check.due("BAD ahead of FULL", x.day(0), BAD);
        Check.due("told", x.told(7), 10000);
    }

    private static void oneYear(Random random) {
        GlassHouse x = new GlassHouse();
        long[][] numbers = new long[2][4];
        int[][][] parts = new int[2][4][3];
        for (int pest = 0; pest < 2; pest++) {
            for (int stage = 0; stage < 4; stage++) {
                for (int k = 0; k < 3; k++) parts[pest][stage][k] = random.nextInt(1001);
                x.parts(pest, stage, parts[pest][stage][0], parts[pest][stage][1], parts[pest][stage][2]);
                numbers[pest][stage] = random.nextInt(random.nextBoolean() ? 50 : MOST + 1);
                x.count(pest, stage, (int) numbers[pest][stage]);
            }
        }
        for (int day = 1; day <= 20; day++) {
            Check.due("day", x.day(1), day);
            for (int pest = 0; pest < 2; pest++) {
                long[] was = numbers[pest].clone();
                long[] next = new long[5];
                for (int stage = 0; stage < 4; stage++) {
                    long[] s = shares(was[stage], parts[pest][stage][0], parts[pest][stage][1]);
                    next[stage + 1] += s[0];
                    next[stage] += s[1];
                }
                next[0] += was[3] * parts[pest][3][2] / 100;
                for (int stage = 0; stage < 4; stage++) {
                    numbers[pest][stage] = Math.min(MOST, next[stage]);
                    Check.due("stage", x.pest(pest, stage), numbers[pest][stage]);
                }
            }
        }
    }

    private static long[] shares(long n, int on, int stays) {
        long[] by = {on, stays, 2000 - on - stays};
        long[] to = new long[3];
        long left = n;
        for (int i = 0; i < 3; i++) {
            to[i] = n * by[i] / 2000;
            left -= to[i];
        }
        boolean[] given = new boolean[3];
        for (; left > 0; left--) {
            int best = -1;
            for (int i = 2; i >= 0; i--) {
                if (!given[i] && (best < 0 || n * by[i] % 2000 >= n * by[best] % 2000)) best = i;
            }
            given[best] = true;
            to[best]++;
        }
        return to;
    }
}
