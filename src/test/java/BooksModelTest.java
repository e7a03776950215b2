import java.nio.ByteBuffer;
import java.util.Arrays;
import java.util.Map;
import java.util.Random;
import java.util.TreeMap;

/** Promises 68 to 74 once more: random books, torn, damaged and opened, against a second reading of the document. */
public final class BooksModelTest {
    private static final int NONE = GlassHouse.NONE, NO = GlassHouse.NO, FULL = GlassHouse.FULL;
    private static final int[] LANES = {1, 3, 4, 5};

    public static void main(String[] args) {
        Random random = new Random(68);
        int[] came = new int[3];
        for (int i = 0; i < 3000; i++) oneBook(random, came);
        Check.holds("DARK came: " + came[0], came[0] > 300);
        Check.holds("CLASHES came: " + came[1], came[1] > 300);
        Check.holds("more than one was READ: " + came[2], came[2] > 1000);
        Check.end();
    }

    private static void oneBook(Random random, int[] came) {
        GlassHouse x = new GlassHouse();
        Books books = new Books();
        for (int i = 0; i < 25; i++) {
            switch (random.nextInt(9)) {
                case 0: {
                    int n = random.nextInt(4) == 0 ? NONE : random.nextInt(201);
                    Check.due("power", x.power(n), books.dark ? NO : 1);
                    if (!books.dark) books.power = n;
                    break;
                }
                case 1:
                    Check.due("open", x.open1(), books.open());
                    break;
                case 2: {
                    int page = random.nextInt(20);
                    int at = random.nextInt(64);
                    int mask = 1 << random.nextInt(8);
                    books.pages[page][at] ^= (byte) mask;
                    Check.due("damage", x.damage(page, at, mask), books.pages[page][at] & 0xFF);
                    break;
                }
                case 3:
                    copyPage(random, x, books);
                    break;
                default:
                    write(random, x, books);
                    break;
            }
            Check.due("dark", x.told(5), books.dark ? 1 : 0);
            Check.due("latest", x.told(3), books.latest);
            Check.due("next", x.told(4), books.next);
        }
        compareRead(x, books);
        if (books.dark) came[0]++;
        if (books.clashes() > 0) came[1]++;
        if (books.read().size() > 1) came[2]++;
    }

    private static void write(Random random, GlassHouse x, Books books) {
        int lane = LANES[random.nextInt(4)];
        long[] cells = new long[random.nextInt(8)];
        x.row(0, lane, cells.length);
        for (int c = 0; c < cells.length; c++) {
            long bits = random.nextBoolean() ? random.nextLong() : random.nextInt(3) - 1;
            cells[c] = lane == 1 ? (byte) bits : lane == 3 ? (short) bits : lane == 4 ? (int) bits : bits;
            x.put(0, lane, c, bits);
        }
        Check.due("write", x.write(0), books.write(lane, cells));
    }

    /** One page becomes another one's, as a whole or with one cell and the sum other than there. */
    private static void copyPage(Random random, GlassHouse x, Books books) {
        int from = random.nextInt(4);
        int to = random.nextInt(20);
        byte[] page = books.pages[from].clone();
        if (random.nextBoolean()) {
            page[12 + 7] ^= 1;
            ByteBuffer.wrap(page).putInt(60, Books.sumOf(page));
        }
        for (int i = 0; i < 64; i++) {
            int mask = (page[i] ^ books.pages[to][i]) & 0xFF;
            if (mask != 0) x.damage(to, i, mask);
        }
        books.pages[to] = page;
    }

    private static void compareRead(GlassHouse x, Books books) {
        Map<Integer, Integer> read = books.read();
        Check.due("read", x.told(8), read.size());
        Check.due("clashes", x.told(6), books.clashes());
        int k = 0;
        for (Map.Entry<Integer, Integer> one : read.entrySet()) {
            ByteBuffer page = ByteBuffer.wrap(books.pages[one.getValue()]);
            Check.all("page", new long[] {x.page(k, 0), x.page(k, 1), x.page(k, 2), x.page(k, 3)}, one.getValue(), one.getKey(), page.get(4), page.get(5));
            for (int c = 0; c <= page.get(5); c++) Check.due("cell", x.page(k, 10 + c), c < page.get(5) ? page.getLong(12 + 8 * c) : NONE);
            k++;
        }
        Check.due("no more", x.page(k, 0), NONE);
    }

    private static final class Books {
        byte[][] pages = new byte[20][64];
        int latest;
        int next;
        int power = NONE;
        boolean dark;

        static int sumOf(byte[] page) {
            int sum = 0;
            for (int i = 0; i < 60; i++) sum = Integer.rotateLeft(sum ^ (page[i] & 0xFF), 11) * 0xC2B2AE35;
            return sum;
        }

        long write(int lane, long[] cells) {
            if (dark) return NO;
            if (cells.length > 6 || next == 20) return FULL;
            ByteBuffer page = ByteBuffer.allocate(64).putInt(latest + 1).put((byte) lane).put((byte) cells.length).put(new byte[6]);
            for (long cell : cells) page.putLong(cell);
            page.putInt(60, sumOf(page.array()));
            int to = next;
            for (int i = 0; i < 64; i++) {
                if (power == 0) {
                    dark = true;
                    return NO;
                }
                if (power != NONE) power--;
                next = to + 1;
                pages[to][i] = page.get(i);
            }
            return ++latest;
        }

        /** A page that is the same when it is written anew from what it tells. */
        private static boolean isWhole(byte[] bytes) {
            ByteBuffer page = ByteBuffer.wrap(bytes);
            int lane = bytes[4];
            int many = bytes[5];
            if (Arrays.stream(LANES).noneMatch(one -> one == lane) || many < 0 || many > 6 || page.getInt(0) < 1) return false;
            ByteBuffer anew = ByteBuffer.allocate(64).putInt(page.getInt(0)).put((byte) lane).put((byte) many).put(new byte[6]);
            for (int c = 0; c < many; c++) {
                long cell = page.getLong(12 + 8 * c);
                anew.putLong(lane == 1 ? (byte) cell : lane == 3 ? (short) cell : lane == 4 ? (int) cell : cell);
            }
            anew.putInt(60, sumOf(anew.array()));
            return Arrays.equals(bytes, anew.array());
        }

        Map<Integer, Integer> read() {
            Map<Integer, Integer> read = new TreeMap<>();
            for (int page = 19; page >= 0; page--) if (isWhole(pages[page])) read.put(ByteBuffer.wrap(pages[page]).getInt(0), page);
            return read;
        }

        int clashes() {
            int many = 0;
            for (byte[] page : pages) {
                if (isWhole(page) && !Arrays.equals(page, pages[read().get(ByteBuffer.wrap(page).getInt(0))])) many++;
            }
            return many;
        }

        int open() {
            power = NONE;
            dark = false;
            latest = 0;
            for (int number : read().keySet()) latest = number;
            next = 0;
            for (int page = 0; page < 20; page++) if (!Arrays.equals(pages[page], new byte[64])) next = page + 1;
            return read().size();
        }
    }
}
