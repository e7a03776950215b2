import java.nio.ByteBuffer;

/** The edges that promises 68 to 75, part 9 of the terms and the limits name; labels are the document's words. */
public final class PagesEdgesTest {
    private static final int NULL = -11, SIZE = -13, CAST = -14;
    private static final int BAD = GlassHouse.BAD, NONE = GlassHouse.NONE, NO = GlassHouse.NO, FULL = GlassHouse.FULL;
    private static final int LEAST = Integer.MIN_VALUE, MOST = Integer.MAX_VALUE;
    private static final int[] LANES = {1, 3, 4, 5};

    public static void main(String[] args) {
        writesLanes1And3To5();
        writes0To6Cells();
        writesTheLeastAndTheGreatest();
        writesTwentyPages();
        numbersFrom1On();
        writesWithTheGreatestNumber();
        hasPowerFor0To200Bytes();
        goesDarkWithTheByteThatWouldCome();
        goesDarkOverSeveralPages();
        setsPowerAnew();
        opensTheDark();
        opensBehindTheLastThatIsNotAll0();
        readsWhatATornPageHas();
        isWholeAsWritten();
        isWholeWithItsSum();
        readsEachNumberOnce();
        clashesWithTheLeastOne();
        tellsPages();
        hasBytes0To63();
        tells0To10();
        endsWith4000Things();
        endsWith3000Faults();
        Check.end();
    }

    private static void row(GlassHouse x, int bin, int lane, long... cells) {
        x.row(bin, lane, cells.length);
        for (int i = 0; i < cells.length; i++) x.put(bin, lane, i, cells[i]);
    }

    private static byte[] sheet(int number, int lane, long... cells) {
        ByteBuffer page = ByteBuffer.allocate(64);
        page.putInt(number).put((byte) lane).put((byte) cells.length).position(12);
        for (long cell : cells) page.putLong(cell);
        return summed(page.array());
    }

    private static byte[] summed(byte[] page) {
        int sum = 0;
        for (int i = 0; i < 60; i++) sum = Integer.rotateLeft(sum ^ (page[i] & 0xFF), 11) * 0xC2B2AE35;
        ByteBuffer.wrap(page).putInt(60, sum);
        return page;
    }

    private static byte[] with(byte[] page, int i, int to) {
        byte[] other = page.clone();
        other[i] = (byte) to;
        return other;
    }

    /** Lays bytes on a page that is all 0, with a call for each that is not 0. */
    private static void lay(GlassHouse x, int page, byte[] bytes) {
        for (int i = 0; i < 64; i++) if (bytes[i] != 0) x.damage(page, i, bytes[i] & 0xFF);
    }

    private static void compare(GlassHouse x, int page, byte[] want) {
        for (int i = 0; i < 64; i++) Check.due("page " + page + " byte " + i, x.octet(page, i), want[i] & 0xFF);
    }

    private static void writesLanes1And3To5() {
        for (int lane = 0; lane < 8; lane++) {
            GlassHouse x = new GlassHouse();
            x.row(0, lane, 1);
            boolean is = lane == 1 || lane >= 3 && lane <= 5;
            Check.due("a ROW of LANE 1, 3, 4 or 5", x.write(0), is ? 1 : CAST);
            Check.due("FAULTS", x.told(2), is ? 0 : 1);
            Check.due("no THING", x.told(1), 1);
        }
        GlassHouse x = new GlassHouse();
        x.grid(0, 9, 1, 1, false);
        x.storeys(1, 1);
        x.tray(2, 12, 1);
        x.plant(3, 0, 0, 0, 0, 0);
        x.card(4);
        for (int bin = 0; bin < 5; bin++) Check.due("no ROW of those LANES", x.write(bin), CAST);
        Check.due("NOTHING", x.write(5), NULL);
        for (int bin : new int[] {-1, 16, LEAST, MOST}) Check.due("BAD", x.write(bin), BAD);
        x.row(15, 1, 1);
        Check.due("BIN 15", x.write(15), 1);
    }

    private static void writes0To6Cells() {
        for (int lane : LANES) {
            for (int n = 0; n <= 7; n++) {
                GlassHouse x = new GlassHouse();
                long[] cells = new long[n];
                for (int i = 0; i < n; i++) cells[i] = i % 2 == 0 ? -1 - i : i;
                row(x, 0, lane, cells);
                Check.due("6 CELLS at most", x.write(0), n < 7 ? 1 : FULL);
                compare(x, 0, n < 7 ? sheet(1, lane, cells) : new byte[64]);
                Check.due("the next PAGE", x.told(4), n < 7 ? 1 : 0);
                Check.due("WHOLE", x.told(8), n < 7 ? 1 : 0);
                Check.due("CELLS", x.page(0, 3), n < 7 ? n : NONE);
                for (int c = -1; c <= n; c++) Check.due("BITS of CELL c", x.page(0, 10 + c), n < 7 && c >= 0 && c < n ? cells[c] : NONE);
            }
            GlassHouse x = new GlassHouse();
            x.row(0, lane, 40);
            Check.due("forty", x.write(0), FULL);
        }
    }

    private static void writesTheLeastAndTheGreatest() {
        long[] most = {Byte.MAX_VALUE, Short.MAX_VALUE, Integer.MAX_VALUE, Long.MAX_VALUE};
        for (int k = 0; k < 4; k++) {
            GlassHouse x = new GlassHouse();
            long[] cells = {most[k], -most[k] - 1, 0, -1};
            row(x, 0, LANES[k], cells);
            Check.due("write", x.write(0), 1);
            compare(x, 0, sheet(1, LANES[k], cells));
            for (int c = 0; c < 4; c++) Check.due("with their sign", x.page(0, 10 + c), cells[c]);
            Check.due("all 0s", x.row(0, LANES[k], 6) + x.write(0), 3);
            compare(x, 1, sheet(2, LANES[k], 0, 0, 0, 0, 0, 0));
        }
    }

    private static void writesTwentyPages() {
        GlassHouse x = new GlassHouse();
        row(x, 0, 4, 7);
        for (int page = 0; page < 20; page++) {
            Check.due("the next PAGE", x.told(4), page);
            Check.due("NUMBER", x.write(0), page + 1);
            Check.due("its PAGE", x.page(page, 0), page);
        }
        Check.due("no PAGE", x.write(0), FULL);
        Check.due("no PAGE", x.told(4), 20);
        Check.due("the latest NUMBER stays", x.told(3), 20);
        Check.due("20 are READ", x.open1() * 100 + x.told(8), 2020);
        Check.due("still no PAGE", x.write(0), FULL);
        compare(x, 19, sheet(20, 4, 7));
    }

    private static void numbersFrom1On() {
        GlassHouse x = new GlassHouse();
        Check.due("none yet", x.told(3), 0);
        row(x, 0, 1, 1);
        Check.due("1 at first", x.write(0), 1);
        for (int number : new int[] {255, 256, 65535, 65536, 16777215, 16777216}) {
            GlassHouse y = new GlassHouse();
            lay(y, 0, sheet(number, 4, 1));
            y.open1();
            Check.due("the latest", y.told(3), number);
            row(y, 0, 4, 2);
            Check.due("1 more than the latest", y.write(0), number + 1);
            compare(y, 1, sheet(number + 1, 4, 2));
        }
    }

    private static void writesWithTheGreatestNumber() {
        GlassHouse x = new GlassHouse();
        lay(x, 4, sheet(MOST - 1, 4, 1));
        x.open1();
        row(x, 0, 4, 2);
        row(x, 1, 7, 2);
        Check.due("the greatest one", x.write(0), MOST);
        Check.due("no more", x.write(0), FULL);
        Check.due("CAST ahead of FULL", x.write(1), CAST);
        Check.due("NULL ahead of FULL", x.write(2), NULL);
        Check.due("as it was", x.told(3) - MOST + x.told(4), 6);
        x.power(0);
        Check.due("it does not use POWER", x.write(0) + x.told(5), FULL);
        for (int number : new int[] {0, -1, LEAST}) {
            GlassHouse y = new GlassHouse();
            lay(y, 0, sheet(number, 4, 1));
            Check.due("a NUMBER of 1 or more", y.open1() + y.told(3), 0);
            Check.due("behind it", y.told(4), 1);
        }
    }

    private static void hasPowerFor0To200Bytes() {
        GlassHouse x = new GlassHouse();
        for (int n : new int[] {-2, 201, LEAST, MOST}) Check.due("n", x.power(n), BAD);
        for (int n : new int[] {0, 1, 200, NONE}) Check.due("n", x.power(n), 1);
        x.power(200);
        row(x, 0, 5, 1, 2, 3, 4, 5, 6);
        Check.all("three PAGES and 8 bytes", new long[] {x.write(0), x.write(0), x.write(0), x.told(5), x.write(0), x.told(5)}, 1, 2, 3, 0, NO, 1);
        byte[] torn = sheet(4, 5, 1, 2, 3, 4, 5, 6);
        for (int i = 8; i < 64; i++) torn[i] = 0;
        compare(x, 3, torn);
        Check.all("its NUMBER is not the latest; its PAGE was begun", new long[] {x.told(3), x.told(4)}, 3, 4);
    }

    private static void goesDarkWithTheByteThatWouldCome() {
        byte[] whole = sheet(1, 4, -1, -2, -3, -4, -5, -6);
        for (int n = 0; n <= 65; n++) {
            GlassHouse x = new GlassHouse();
            row(x, 0, 4, -1, -2, -3, -4, -5, -6);
            x.power(n);
            Check.due("not yet", x.told(5), 0);
            Check.due("NO: DARK (also by this one)", x.write(0), n < 64 ? NO : 1);
            Check.due("DARK", x.told(5), n < 64 ? 1 : 0);
            Check.due("with no byte its PAGE was not begun", x.told(4), n == 0 ? 0 : 1);
            Check.due("the latest", x.told(3), n < 64 ? 0 : 1);
            byte[] want = whole.clone();
            for (int i = n; i < 64; i++) want[i] = 0;
            compare(x, 0, want);
            Check.due("the next one", x.write(0), NO);
            Check.due("DARK", x.told(5), 1);
            Check.due("with no byte, or with one", x.told(4), n == 0 ? 0 : n == 65 ? 2 : 1);
            Check.due("FAULTS", x.told(2), 0);
        }
    }

    private static void goesDarkOverSeveralPages() {
        for (int n = 126; n <= 130; n++) {
            GlassHouse x = new GlassHouse();
            row(x, 0, 1, 5);
            x.power(n);
            Check.due("the first", x.write(0), 1);
            Check.due("the second", x.write(0), n < 128 ? NO : 2);
            Check.due("the third", x.write(0), NO);
            Check.due("begun", x.told(4), n <= 128 ? 2 : 3);
        }
    }

    private static void setsPowerAnew() {
        GlassHouse x = new GlassHouse();
        row(x, 0, 1, 5);
        x.power(10);
        x.power(64);
        Check.due("n bytes more", x.write(0), 1);
        x.power(64);
        Check.due("n bytes more, from here", x.write(0), 2);
        x.power(0);
        x.power(NONE);
        Check.due("NONE: it stays", x.write(0), 3);
        x.power(0);
        x.power(-2);
        Check.due("a BAD one leaves it", x.write(0), NO);
        for (int n : new int[] {NONE, 0, 200}) Check.due("NO: DARK", x.power(n), NO);
        for (int n : new int[] {-2, 201}) Check.due("BAD ahead of NO", x.power(n), BAD);
        x.card(1);
        x.row(2, 4, 7);
        Check.all("CAST, NULL ahead of NO; NO ahead of FULL", new long[] {x.write(1), x.write(3), x.write(2)}, CAST, NULL, NO);
    }

    private static void opensTheDark() {
        GlassHouse x = new GlassHouse();
        Check.due("of none", x.open1() * 10 + x.told(5), 0);
        row(x, 0, 1, 5);
        x.write(0);
        x.power(40);
        x.write(0);
        Check.due("DARK", x.told(5), 1);
        Check.due("how many NUMBERS are READ", x.open1(), 1);
        Check.all("latest, next, light", new long[] {x.told(3), x.told(4), x.told(5)}, 1, 2, 0);
        Check.due("POWER is set no more", x.write(0) + x.write(0), 2 + 3);
        Check.due("behind the torn one", x.page(1, 0), 2);
        x.power(5);
        x.open1();
        Check.due("POWER is set no more", x.write(0), 4);
        Check.due("power again", x.power(0), 1);
    }

    private static void opensBehindTheLastThatIsNotAll0() {
        for (int page : new int[] {0, 1, 10, 18, 19}) {
            for (int i : new int[] {0, 31, 63}) {
                GlassHouse x = new GlassHouse();
                x.damage(page, i, 1);
                Check.due("till it is OPENED", x.told(4), 0);
                Check.due("open", x.open1(), 0);
                Check.due("behind the last one that is not all 0", x.told(4), page + 1);
                row(x, 0, 4, 1);
                Check.due("write", x.write(0), page == 19 ? FULL : 1);
                x.damage(page, i, 1);
                if (page < 19) continue;
                x.open1();
                Check.due("all 0 again", x.told(4), 0);
            }
        }
        GlassHouse x = new GlassHouse();
        row(x, 0, 4, 1);
        x.power(3);
        x.write(0);
        Check.due("begun, though its bytes are 0s", x.told(4), 1);
        x.open1();
        Check.due("all 0", x.told(4), 0);
        GlassHouse y = new GlassHouse();
        row(y, 0, 4, 1);
        y.power(4);
        y.write(0);
        y.open1();
        Check.due("with its fourth byte it is not", y.told(4), 1);
        GlassHouse z = new GlassHouse();
        row(z, 0, 4, 1);
        for (int i = 0; i < 20; i++) z.write(0);
        for (int i = 0; i < 64; i++) z.damage(19, i, z.octet(19, i));
        Check.due("till it is OPENED", z.write(0), FULL);
        z.open1();
        Check.due("a PAGE again", z.write(0), 20);
    }

    private static void readsWhatATornPageHas() {
        // A row whose SUM ends with a 0 byte is WHOLE without its last byte.
        int cell = 0;
        while (sheet(1, 4, cell)[63] != 0) cell++;
        GlassHouse x = new GlassHouse();
        row(x, 0, 4, cell);
        x.power(63);
        Check.due("torn", x.write(0), NO);
        Check.due("not the latest", x.told(3), 0);
        Check.due("but READ, as PAGES are now", x.told(8) * 10 + x.page(0, 1), 11);
        Check.due("OPENED", x.open1() * 10 + x.told(3), 11);
        Check.due("the next NUMBER", x.write(0), 2);
    }

    private static void isWholeAsWritten() {
        Object[][] rows = {
            {sheet(1, 1, 127), true}, {sheet(1, 1, 128), false}, {sheet(1, 1, -128), true}, {sheet(1, 1, -129), false},
            {sheet(1, 3, 32767), true}, {sheet(1, 3, 32768), false}, {sheet(1, 3, -32768), true}, {sheet(1, 3, -32769), false},
            {sheet(1, 4, 2147483647L), true}, {sheet(1, 4, 2147483648L), false}, {sheet(1, 4, -2147483648L), true}, {sheet(1, 4, -2147483649L), false},
            {sheet(1, 5, Long.MAX_VALUE), true}, {sheet(1, 5, Long.MIN_VALUE), true}, {sheet(MOST, 4, 1), true}, {sheet(LEAST, 4, 1), false},
            {sheet(0, 4, 1), false}, {sheet(1, 0, 1), false}, {sheet(1, 2, 1), false}, {sheet(1, 6, 1), false}, {sheet(1, 7, 1), false},
            {sheet(1, 8, 1), false}, {sheet(1, 255, 1), false}, {sheet(1, 5), true}, {sheet(1, 5, 1, 2, 3, 4, 5, 6), true},
            {sheet(1, 1, 1, 2, 3, 4, 5, 128), false}, {summed(with(sheet(1, 5, 1), 5, 7)), false}, {summed(with(sheet(1, 5, 1), 5, 6)), true},
            {summed(with(sheet(1, 5, 1), 5, 0)), false}, {summed(with(sheet(1, 5, 1), 5, 255)), false}, {summed(with(sheet(1, 5, 1), 6, 1)), false},
            {summed(with(sheet(1, 5, 1), 11, 128)), false}, {summed(with(sheet(1, 5, 1), 12, 1)), true}, {summed(with(sheet(1, 5, 1), 20, 1)), false},
            {summed(with(sheet(1, 5, 1), 59, 1)), false}, {new byte[64], false}, {summed(new byte[64]), false}};
        for (int i = 0; i < rows.length; i++) {
            GlassHouse x = new GlassHouse();
            lay(x, 13, (byte[]) rows[i][0]);
            Check.due("as such a one is WRITTEN: row " + i, x.told(8), (Boolean) rows[i][1] ? 1 : 0);
            Check.due("OPENED: row " + i, x.open1(), (Boolean) rows[i][1] ? 1 : 0);
        }
    }

    private static void isWholeWithItsSum() {
        byte[] whole = sheet(7, 5, 1, -2, 3);
        for (int i = 0; i < 64; i++) {
            GlassHouse x = new GlassHouse();
            lay(x, 0, whole);
            for (int bit = 0; bit < 8; bit += 7) {
                Check.due("damaged", x.damage(0, i, 1 << bit), whole[i] & 0xFF ^ 1 << bit);
                Check.due("byte " + i, x.told(8), 0);
                x.damage(0, i, 1 << bit);
                Check.due("as it was", x.told(8), 1);
            }
        }
    }

    private static void readsEachNumberOnce() {
        GlassHouse x = new GlassHouse();
        lay(x, 19, sheet(1, 5, 11));
        lay(x, 0, sheet(MOST, 5, 22));
        lay(x, 10, sheet(1, 5, 33));
        lay(x, 9, sheet(2, 5, 44));
        Check.due("each NUMBER once", x.open1(), 3);
        Check.all("by their NUMBERS", new long[] {x.page(0, 1), x.page(1, 1), x.page(2, 1)}, 1, 2, MOST);
        Check.all("that of the least PAGE", new long[] {x.page(0, 0), x.page(1, 0), x.page(2, 0)}, 10, 9, 0);
        Check.all("its CELL", new long[] {x.page(0, 10), x.page(1, 10), x.page(2, 10)}, 33, 44, 22);
        Check.due("the latest is the greatest", x.told(3), MOST);
        x.damage(10, 60, 1);
        Check.all("as PAGES are now", new long[] {x.page(0, 0), x.page(0, 10), x.told(8), x.told(6)}, 19, 11, 3, 0);
        Check.due("behind the last", x.told(4), 20);
    }

    private static void clashesWithTheLeastOne() {
        GlassHouse x = new GlassHouse();
        Check.due("none", x.told(6), 0);
        lay(x, 2, sheet(3, 1, 1));
        Check.due("one alone", x.told(6), 0);
        lay(x, 4, sheet(3, 1, 1));
        Check.due("the same bytes", x.told(6), 0);
        lay(x, 6, sheet(3, 1, 2));
        Check.due("other bytes", x.told(6), 1);
        lay(x, 8, sheet(3, 1, 1));
        Check.due("the same as the least one", x.told(6), 1);
        lay(x, 19, sheet(3, 3, 1));
        Check.due("other bytes", x.told(6), 2);
        lay(x, 0, sheet(3, 1, 2));
        Check.due("other ones than the least one now: 2, 4, 8, 19", x.told(6), 4);
        x.damage(0, 63, 1);
        Check.due("WHOLE PAGES", x.told(6), 2);
        lay(x, 1, sheet(4, 1, 9));
        Check.due("another NUMBER", x.told(6), 2);
        lay(x, 3, sheet(4, 1, 8));
        Check.due("its own CLASH", x.told(6), 3);
        Check.due("READ", x.told(8), 2);
    }

    private static void tellsPages() {
        GlassHouse x = new GlassHouse();
        for (int what : new int[] {0, 1, 2, 3, 10}) Check.due("none such", x.page(0, what), NONE);
        row(x, 0, 3, -5, 6);
        x.write(0);
        Check.all("PAGE, NUMBER, LANE, CELLS", new long[] {x.page(0, 0), x.page(0, 1), x.page(0, 2), x.page(0, 3)}, 0, 1, 3, 2);
        Check.all("10 + c", new long[] {x.page(0, 10), x.page(0, 11)}, -5, 6);
        for (int what : new int[] {-1, 4, 9, 12, 15, 16, LEAST, MOST}) Check.due("none such", x.page(0, what), NONE);
        for (int k : new int[] {-1, 1, LEAST, MOST}) Check.due("none such", x.page(k, 0), NONE);
    }

    private static void hasBytes0To63() {
        GlassHouse x = new GlassHouse();
        for (int page = -1; page <= 20; page += page == 1 ? 17 : 1) for (int i = -1; i <= 64; i += i == 1 ? 61 : 1) {
            boolean is = page >= 0 && page < 20 && i >= 0 && i < 64;
            Check.due("0 at first", x.octet(page, i), is ? 0 : BAD);
            Check.due("itself ^ 255", x.damage(page, i, 255), is ? 255 : BAD);
            Check.due("what it is then", x.octet(page, i), is ? 255 : BAD);
            Check.due("itself ^ 0", x.damage(page, i, 0), is ? 255 : BAD);
            Check.due("itself ^ 128", x.damage(page, i, 128), is ? 127 : BAD);
            for (int mask : new int[] {-1, 256}) Check.due("mask", x.damage(page, i, mask), BAD);
            Check.due("as it was", x.octet(page, i), is ? 127 : BAD);
            x.damage(page, i, 127);
        }
    }

    private static void tells0To10() {
        GlassHouse x = new GlassHouse();
        for (int what = -1; what <= 11; what++) Check.due("at first", x.told(what), what < 0 || what > 10 ? BAD : 0);
        Check.due("far", x.told(LEAST) + x.told(MOST), 2 * BAD);
        Check.due("fault", x.fault(), 0);
        for (int i = 1; i <= 3; i++) {
            x.put(0, 4, 0, 1);
            Check.due("FAULTS ever", x.told(2), i);
        }
        x.row(0, 4, 41);
        x.row(0, 4, 1);
        Check.due("the latest call that had one", x.fault(), 1);
        int[][] steps = {{16, 0}, {2, 0}, {0, 0}, {17, 6}, {9, 0}, {0, 0}};
        for (int[] s : steps) x.step(0, s[0], s[1], 0, 0);
        Check.due("also of a RUN, that went out", x.run(0) * 10 + x.fault(), -170 + 7);
        Check.due("also those that arose in a RUN", x.told(2), 5);
        x.put(9, 4, 0, 1);
        x.drop(0);
        Check.due("a RUN without one", x.run(0) + x.fault(), 1);
        x.step(0, 16, 0, 0, 0);
        x.step(0, 7, 0, 0, 0);
        x.step(0, 0, 0, 0, 0);
        x.step(0, 17, 0, 0, 0);
        x.step(0, 0, 0, 0, 0);
        Check.due("a RUN out of which none went", x.run(0) + x.fault(), 1);
        x.put(0, 4, 1, 1);
        Check.due("INDEX", x.fault(), 2);
        x.quotient(4, 1, 0, 0);
        x.get(0, 3, 0);
        Check.due("the latest of several", x.fault(), 4);
    }

    private static void endsWith4000Things() {
        for (int short1 = 0; short1 <= 1; short1++) {
            GlassHouse x = new GlassHouse();
            x.grid(1, 9, 10, 0, false);
            x.storeys(0, 4);
            for (int i = 0; i < 4; i++) x.set(0, i, 1);
            // 12 things, then 45 by each copy
            for (int i = 0; i < 88; i++) x.copy(2, 0, true);
            for (int i = 0; i < 28 - short1; i++) x.row(3, 4, 0);
            Check.due("THINGS", x.told(1), 4000 - short1);
            x.share(3, 9);
            if (short1 == 1) Check.due("what has a FAULT made none", x.row(3, 4, -1) * 10 + x.told(1), 10 * SIZE + 3999);
            Check.due("one call may go beyond", x.copy(4, 0, true), short1 == 1 ? 1 : FULL);
            Check.due("beyond", x.told(1), short1 == 1 ? 3999 + 45 : 4000);
            Check.due("then none", x.row(3, 4, 0) + x.card(3) + x.copy(3, 15, true) + x.run(0), 4 * FULL);
        }
    }

    private static void endsWith3000Faults() {
        for (int short1 = 0; short1 <= 1; short1++) {
            GlassHouse x = new GlassHouse();
            x.row(1, 4, 1);
            x.put(1, 4, 0, 1);
            int[][] steps = {{20, 0}, {1, -1}, {16, 0}, {7, 0}, {0, 0}, {17, 0}, {0, 0}, {0, 0}};
            for (int[] s : steps) x.step(0, s[0], 0, s[1], 0);
            x.setStock(0, 10000);
            for (int i = 0; i < 40 - short1; i++) x.run(0);
            if (short1 == 1) {
                x.setStock(0, 74);
                x.run(0);
                x.setStock(0, 75);
            }
            Check.due("FAULTS", x.told(2), 3000 - short1);
            if (short1 == 1) {
                Check.due("2999 are not as many", x.card(3) + x.shares(1, 1, 4) + x.copy(5, 9, true), 2);
                Check.due("one call may go beyond", x.run(0), -30);
                Check.due("beyond", x.told(2), 2999 + 75);
            }
            Check.all("FULL", new long[] {x.row(3, 0, 1), x.grid(3, 8, 1, 1, true), x.storeys(3, 1), x.copy(3, 9, false), x.plant(3, 0, 0, 0, 0, 0),
                x.tray(3, 12, 1), x.card(3), x.shares(1, 1, 3), x.run(0), x.run(1)}, FULL, FULL, FULL, FULL, FULL, FULL, FULL, FULL, FULL, FULL);
            int before = x.told(2);
            Check.due("others go on", x.put(9, 4, 0, 1) + x.put(1, 4, 0, 2), NULL + 1);
            Check.due("and their FAULTS are counted", x.told(2), before + 1);
        }
    }
}
