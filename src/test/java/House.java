import java.util.LinkedHashMap;
import java.util.Map;

/**
 * A house in which something stands everywhere, made by the same calls each time, and looks at all that it can tell. A look
 * may use the house up: what it will do next is a part of what it is. House and look together stay below 512 calls.
 */
final class House {
    static final int LOOKS = 5;
    static final int INTS = 0, GRID = 1, STOREYS = 2, TRAY = 3, TOMATO = 4, GRAFT = 5, CARD = 6, OTHER_CARD = 7, DOUBLES = 8;
    static final int SEVEN_SHORTS = 9, TOMATO_TRAY = 10, FLOATS = 11, BARE_GRID = 12, CRESS_BY_0 = 13, HERB_BY_0 = 14, EMPTY = 15;
    static final int FORMED_PLAN = 0, OPEN_PLAN = 1, FULL_PLAN = 2, STRAY_PLAN = 3;
    private static final int[] WISHED_AT = {0, 5, 100, 155, 1400, 1439};

    private House() {
    }

    static GlassHouse furnished() {
        GlassHouse x = new GlassHouse();
        fillBins(x);
        fillPlans(x);
        fillAir(x);
        fillBooks(x);
        x.ask(TOMATO, 1);
        x.shift(INTS, 0, INTS, 1, 2);
        x.put(EMPTY, 4, 0, 1);
        return x;
    }

    private static void fillBins(GlassHouse x) {
        x.row(INTS, 4, 4);
        for (int i = 0; i < 4; i++) x.put(INTS, 4, i, 3 * i + 1);
        x.grid(GRID, 9, 2, 3, false);
        x.set(GRID, 1, INTS);
        x.setBed(GRID, 9, 0, 2, -5);
        x.storeys(STOREYS, 3);
        x.set(STOREYS, 0, GRID);
        x.grid(EMPTY, 9, 1, 1, true);
        x.set(STOREYS, 1, EMPTY);
        x.share(EMPTY, GlassHouse.NONE);
        x.plant(TOMATO, 1, 4, 3, 0, 0);
        x.plant(GRAFT, 2, 5, 6, TOMATO, EMPTY);
        x.plant(CRESS_BY_0, 3, 8, 0, 0, 0);
        x.plant(HERB_BY_0, 0, 0, 1, 0, 0);
        x.tray(TRAY, 12, 3);
        x.set(TRAY, 0, HERB_BY_0);
        x.set(TRAY, 1, TOMATO);
        x.tray(TOMATO_TRAY, 13, 2);
        x.card(CARD);
        x.card(OTHER_CARD);
        x.setField(CARD, 4, 77);
        x.setField(CARD, 7, 78);
        x.lead(CARD, 0, OTHER_CARD);
        x.lead(CARD, 1, TOMATO);
        x.row(DOUBLES, 7, 3);
        x.put(DOUBLES, 7, 1, Double.doubleToLongBits(2.5));
        x.row(SEVEN_SHORTS, 3, 7);
        x.row(FLOATS, 6, 2);
        x.grid(BARE_GRID, 10, 2, 2, true);
        for (int k = 0; k < 6; k++) x.setStock(k, 10 + k);
    }

    private static void fillPlans(GlassHouse x) {
        int[][] formed = {{12, 0, 4, 0}, {13, 1, 5, 6}, {11, 2, 0, 0}, {16, 0, 0, 0}, {1, 1, 7, 0}, {7, 9, 0, 0}, {0, 0, 0, 0},
            {17, 8, 0, 0}, {3, 0, 3, 44}, {2, 2, 0, 0}, {0, 0, 0, 0}, {18, 0, 0, 0}, {9, 2, 0, 0}, {0, 0, 0, 0}, {0, 0, 0, 0},
            {0, 0, 0, 0}, {0, 0, 0, 0}};
        for (int[] s : formed) x.step(FORMED_PLAN, s[0], s[1], s[2], s[3]);
        x.step(OPEN_PLAN, 14, 0, 0, 0);
        for (int i = 0; i < 40; i++) x.step(FULL_PLAN, 1, i % 6, i, 0);
        x.step(STRAY_PLAN, 1, 0, 1, 0);
        x.step(STRAY_PLAN, 17, 0, 0, 0);
        x.run(FORMED_PLAN);
    }

    private static void fillAir(GlassHouse x) {
        for (int i = 0; i < 8; i++) x.line(0, 5 * i, 100 * i * i);
        x.line(1, -3, 8);
        x.rest(0, 1);
        x.rest(2, 2);
        x.value(0, 3);
        for (int i = 0; i < 6; i++) x.mark(0, 5 + 50 * i, 1000 * i);
        x.mark(1, 7, 15000);
        for (int p = 0; p < 6; p++) x.read(p, Double.doubleToLongBits(20 + p));
        x.read(6, Double.doubleToLongBits(35));
        x.part(Double.doubleToLongBits(1.5));
        x.weather(0, 300);
        x.weather(4, 1);
        x.minute(4);
    }

    private static void fillBooks(GlassHouse x) {
        for (int s = 0; s < 6; s++) x.salt(s, s % 3, 5 + s);
        x.work();
        for (int stage = 0; stage < 4; stage++) {
            x.count(1, stage, 100 + stage);
            x.parts(1, stage, 300, 400, 200);
        }
        x.day(2);
        x.spray(1);
        x.write(INTS);
        x.write(INTS);
        x.damage(7, 3, 9);
        x.power(70);
    }

    static Map<String, Long> look(GlassHouse x, int which) {
        Map<String, Long> told = new LinkedHashMap<>();
        switch (which) {
            case 0: lookAtBins(x, told); break;
            case 1: lookAtCells(x, told); break;
            case 2: lookAtNumbers(x, told); break;
            case 3: lookAtPages(x, told); break;
            default: lookAhead(x, told); break;
        }
        return told;
    }

    private static void lookAtBins(GlassHouse x, Map<String, Long> told) {
        lookAtAnswers(x, told);
        for (int bin = 0; bin < 16; bin++) {
            told.put("form " + bin, (long) x.form(bin));
            for (int other = 0; other < bin; other++) told.put("alike " + bin + " " + other, (long) x.alike(bin, other));
        }
    }

    private static void lookAtCells(GlassHouse x, Map<String, Long> told) {
        for (int bin = 0; bin < 16; bin++) {
            int form = x.form(bin);
            boolean row = form >= 0 && form < 8;
            int many = row || form >= 8 && form < 16 ? x.size(bin, 0) : 0;
            told.put("size " + bin, (long) many);
            for (int i = 0; row && i < many; i++) told.put("cell " + bin + " " + i, x.get(bin, form, i));
            for (int i = 0; form == 17 && i < 8; i++) told.put("field " + bin + " " + i, x.field(bin, i));
        }
        for (int j = 0; j < 3; j++) told.put("bed " + j, x.bed(GRID, 9, 0, j));
        int[][] places = {{STOREYS, 0}, {STOREYS, 1}, {STOREYS, 2}, {TRAY, 0}, {TRAY, 1}, {TRAY, 2}, {TOMATO_TRAY, 0}, {TOMATO_TRAY, 1},
            {GRID, 1}, {BARE_GRID, 0}};
        for (int[] place : places) {
            x.lift(EMPTY, place[0], place[1]);
            for (int bin = 0; bin < 15; bin++) told.put("place " + place[0] + " " + place[1] + " " + bin, (long) x.alike(EMPTY, bin));
        }
        x.follow(EMPTY, CARD, 0);
        told.put("next", (long) x.alike(EMPTY, OTHER_CARD));
        x.follow(EMPTY, CARD, 1);
        told.put("leaf", (long) x.alike(EMPTY, TOMATO));
        told.put("led", (long) x.led(CARD, 0));
    }

    private static void lookAtAnswers(GlassHouse x, Map<String, Long> told) {
        told.put("fault", (long) x.fault());
        for (int what = 0; what <= 10; what++) told.put("told " + what, (long) x.told(what));
        told.put("came", (long) x.came());
        told.put("answer", (long) x.answer());
        for (int i = 0; i < 6; i++) told.put("trace " + i, (long) x.trace(i));
    }

    private static void lookAtNumbers(GlassHouse x, Map<String, Long> told) {
        for (int what = 0; what < 9; what++) told.put("ran " + what, (long) x.ran(what));
        for (int k = 0; k < 6; k++) told.put("stock " + k, x.stock(k));
        for (int v = 0; v < 6; v++) told.put("valve " + v, (long) x.valve(v / 2, v % 2));
        for (int plan = 0; plan < 4; plan++) told.put("formed " + plan, (long) x.formed(plan));
        for (int k = 0; k < 3; k++) told.put("laid " + k, (long) x.laid(k));
        for (int p = 0; p < 9; p++) for (int what = 0; what < 5; what++) told.put("probe " + p + " " + what, (long) x.probe(p, what));
        for (int h = 0; h < 3; h++) {
            told.put("voted " + h, x.voted(h));
            for (int what = 0; what < 11; what++) told.put("air " + h + " " + what, x.air(h, what));
            for (int at : WISHED_AT) told.put("wish " + h + " " + at, (long) x.wish(h, at));
        }
        for (int what = 0; what < 5; what++) told.put("weather " + what, (long) x.weather(what, 0));
        for (int s = 0; s < 18; s++) told.put("salt " + s, (long) x.salt(s / 3, s % 3, 0));
        for (int w = 0; w < 16; w++) told.put("worked " + w, x.worked(w / 4, w % 4));
        for (int s = 0; s < 8; s++) told.put("pest " + s, (long) x.pest(s / 4, s % 4));
        told.put("wait", (long) x.wait1());
    }

    private static void lookAtPages(GlassHouse x, Map<String, Long> told) {
        for (int page : new int[] {1, 2, 7}) for (int i = 0; i < 64; i++) told.put("octet " + page + " " + i, (long) x.octet(page, i));
        for (int what : new int[] {0, 1, 2, 3, 10, 11}) told.put("page " + what, x.page(1, what));
        told.put("write with 70 bytes left", (long) x.write(INTS));
        told.put("write with 6 bytes left", (long) x.write(INTS));
        told.put("dark", (long) x.told(5));
        told.put("open", (long) x.open1());
        told.put("latest", (long) x.told(3));
        told.put("next", (long) x.told(4));
    }

    /** What it does from here on. */
    private static void lookAhead(GlassHouse x, Map<String, Long> told) {
        for (int plan = 0; plan < 4; plan++) {
            told.put("run " + plan, (long) x.run(plan));
            for (int what = 0; what < 9; what++) told.put("run " + plan + " " + what, (long) x.ran(what));
        }
        for (int k = 0; k < 6; k++) told.put("stock then " + k, x.stock(k));
        for (int t = 0; t < 3; t++) told.put("value " + t, (long) x.value(t, 17));
        for (int k = 0; k < 3; k++) told.put("laid then " + k, (long) x.laid(k));
        for (int h = 0; h < 3; h++) told.put("unmark " + h, (long) x.unmark(h));
        for (int p = 0; p < 9; p += 3) x.read(p, Double.doubleToLongBits(p == 0 ? 10 : p == 3 ? 11.5 : 13.5));
        told.put("minute", (long) x.minute(1));
        for (int p = 0; p < 9; p++) for (int what = 0; what < 5; what++) told.put("probe then " + p + " " + what, (long) x.probe(p, what));
        for (int h = 0; h < 3; h++) for (int what = 0; what < 6; what++) told.put("air then " + h + " " + what, x.air(h, what));
        told.put("day", (long) x.day(1));
        for (int s = 0; s < 8; s++) told.put("pest then " + s, (long) x.pest(s / 4, s % 4));
        told.put("work", (long) x.work());
        for (int w = 0; w < 16; w++) told.put("worked then " + w, x.worked(w / 4, w % 4));
        told.put("card", (long) x.card(EMPTY));
        told.put("plant", (long) x.plant(EMPTY, 0, 0, 0, 0, 0));
    }
}
