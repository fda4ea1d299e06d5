/** Promises 21 to 24, 26 and 27: plans, books, the image. */
public final class PlanTest {
    private static void planning() {
        RefusalMaps x = new RefusalMaps();
        Due.due("plan(0, ..) without any", x.plan(0, -77), 1);
        Due.due("plan(1, 0) without any", x.plan(1, 0), -1);
        Due.due("plan(-1, ..)", x.plan(-1, -5), 0);
        Due.due("count(3)", x.count(3), 0);
        x.traveller(0, 0, 0);
        x.traveller(0, 0, 0);
        for (int what : new int[] {-2, 4, Integer.MAX_VALUE, Integer.MIN_VALUE}) Due.due("plan(what, 0)", x.plan(what, 0), -1);
        for (int what : new int[] {1, 3}) {
            Due.due("plan(what, 2)", x.plan(what, 2), -1);
            Due.due("plan(what, -1)", x.plan(what, -1), -1);
        }
        for (int both : new int[] {-1, -10, -11, 2, 20, 12, 21, 22, 100, 110, Integer.MIN_VALUE, Integer.MAX_VALUE}) {
            Due.due("plan(2, " + both + ")", x.plan(2, both), -1);
        }
        Due.due("none of them came", x.count(3), 0);
        int[][] rows = {{0, 0}, {1, 0}, {1, 1}, {2, 1}, {2, 10}, {3, 1}, {0, Integer.MIN_VALUE}, {3, 0}};
        for (int i = 0; i < 8; i++) Due.due("plan", x.plan(rows[i][0], rows[i][1]), i + 1);
        Due.due("plan: the ninth", x.plan(0, 0), -4);
        Due.due("plan(4, 0): NONE comes first", x.plan(4, 0), -1);
        Due.due("plan(2, 12): NONE comes first", x.plan(2, 12), -1);
        Due.due("count(3)", x.count(3), 8);
        Due.due("plan(-1, 0)", x.plan(-1, 0), 0);
        Due.due("plan(0, 0)", x.plan(0, 0), 1);
    }

    /** Traveller 0 from 0 to 1, shut; 1 from 15 to 14. */
    private static RefusalMaps two() {
        RefusalMaps x = new RefusalMaps();
        x.traveller(0, 0, 0);
        x.traveller(0, 0, 15);
        x.goal(0, 1);
        x.goal(1, 14);
        x.gate(1, 0);
        return x;
    }

    private static void ends(String what, RefusalMaps x, int goals, int noes) {
        Due.due(what + ": how many", x.ends(0), goals);
        Due.due(what + ": NOES", x.ends(1), noes);
    }

    /** One and another are told by tens and ones; what both have drawn stays drawn; cell 0 is as any. */
    private static void endingOfMany() {
        RefusalMaps x = new RefusalMaps();
        for (int i = 0; i < 6; i++) x.traveller(0, 0, 15);
        for (int n : new int[] {56, 59, 60, 65, 69, 95, 99}) Due.due("plan(2, " + n + ")", x.plan(2, n), -1);
        x.goal(5, 11);
        x.put(4, 0);
        x.goal(4, 1);
        x.chart(4, 1 << 11 | 1 << 14);
        x.chart(5, 1 << 14);
        Due.due("plan(2, 54)", x.plan(2, 54), 1);
        x.plan(0, 0);
        ends("5 has 11 and 14 drawn: it stays; 4 goes", x, 1, 0);
        x.plan(-1, 0);
        x.plan(2, 45);
        x.plan(0, 0);
        ends("4 has 14 drawn by 5: both go", x, 2, 0);
        x.plan(3, 4);
        ends("4 has no goal", x, 1, 0);
        x.plan(-1, 0);
        // 4 is at 0 and would come to 4 by 5, since 4 is drawn; from 1 to 4 by 0.
        x.put(4, 1);
        x.goal(4, 0);
        x.chart(4, 1);
        x.plan(0, 0);
        ends("0 is drawn: 4 stays", x, 1, 0);
        x.plan(1, 4);
        x.plan(0, 0);
        ends("0 is drawn no more", x, 2, 0);
        x.put(4, 0);
        x.plan(3, 4);
        ends("at 0 without a goal", x, 1, 0);
        x.plan(-1, 0);
        x.chart(4, 1 << 14);
        x.chart(5, 1 << 14);
        x.goal(5, 14);
        x.plan(2, 54);
        x.plan(0, 0);
        ends("14 was drawn on both: 5 stays", x, 1, 0);
    }

    private static void ending() {
        RefusalMaps x = two();
        ends("no plan", x, 0, 0);
        x.plan(0, 0);
        ends("an hour", x, 1, 1);
        x.plan(0, 0);
        ends("two hours: 1 is drawn, there is no way", x, 1, 1);
        x.plan(1, 0);
        ends("drawn no more", x, 1, 1);
        x.plan(0, 0);
        ends("it tries again", x, 1, 2);
        x.plan(3, 1);
        ends("the other has no goal", x, 0, 2);
        x.plan(1, 1);
        x.plan(1, 0);
        x.plan(0, 0);
        ends("8 rows", x, 0, 3);
        Due.due("ends(2)", x.ends(2), -1);
        Due.due("ends(-1)", x.ends(-1), -1);
        Due.due("it changed nothing: HOUR", x.told(0), 0);
        Due.due("it changed nothing: NOES", x.told(3), 0);
        Due.due("it changed nothing: GOAL", x.of(1, 3), 14);
        Due.due("it changed nothing: CHART", x.of(0, 4), 0);
        x.pass(1);
        ends("from where all is now", x, 0, 3);
        RefusalMaps y = two();
        y.chart(1, 0b10);
        y.plan(2, 1);
        y.plan(0, 0);
        ends("0 has all drawn that 1 has: no try", y, 1, 0);
        RefusalMaps z = two();
        z.chart(1, 0b10);
        z.plan(2, 10);
        z.plan(0, 0);
        ends("1 has all drawn that 0 has: a try", z, 1, 1);
        z.plan(-1, 0);
        z.chart(0, 1 << 14);
        z.plan(2, 10);
        z.plan(0, 0);
        ends("1 has 14 drawn now: it stays", z, 0, 1);
        z.plan(-1, 0);
        z.chart(1, 1 << 11);
        z.chart(0, 1);
        z.plan(2, 10);
        z.plan(2, 1);
        z.plan(0, 0);
        ends("both have both drawn: what was drawn stays", z, 1, 1);
        z.put(1, 10);
        z.goal(1, 11);
        ends("11 stays drawn for 1", z, 0, 1);
    }

    private static void booking() {
        RefusalMaps x = new RefusalMaps();
        Due.due("book(-1, ..) without any", x.book(-1, -5), 0);
        Due.due("book(0, 0) without any", x.book(0, 0), -1);
        Due.due("looked()", x.looked(), -5);
        x.traveller(0, 0, 0);
        x.traveller(0, 0, 15);
        Due.due("book(2, 0)", x.book(2, 0), -1);
        Due.due("book(-2, 0)", x.book(-2, 0), -1);
        Due.due("book(0, -1)", x.book(0, -1), -2);
        Due.due("book(0, 65536)", x.book(0, 65536), -2);
        Due.due("book(2, 65536): NONE comes first", x.book(2, 65536), -1);
        Due.due("book(0, 0)", x.book(0, 0), 1);
        Due.due("book(1, 0)", x.book(1, 0), 2);
        Due.due("looked(): all as told", x.looked(), -5);
        Due.due("book(1, 65535)", x.book(1, 65535), 3);
        Due.due("looked()", x.looked(), 2);
        x.chart(1, 65535);
        Due.due("looked()", x.looked(), 1);
        x.chart(0, 1);
        Due.due("looked()", x.looked(), 0);
        for (int n = 4; n <= 8; n++) Due.due("book(0, n)", x.book(0, n), n);
        Due.due("book(0, 0): the ninth", x.book(0, 0), -4);
        Due.due("book(0, -1): BAD comes first", x.book(0, -1), -2);
        Due.due("book(2, 0): NONE comes first", x.book(2, 0), -1);
        Due.due("count(4)", x.count(4), 8);
        Due.due("book(-1, 65536)", x.book(-1, 65536), 0);
        Due.due("count(4)", x.count(4), 0);
        Due.due("looked()", x.looked(), -5);
    }

    private static void image() {
        RefusalMaps x = new RefusalMaps();
        Due.due("undo() without an image", x.undo(), -3);
        Due.due("image()", x.image(), 0);
        x.traveller(6, 4, 0);
        Due.due("undo()", x.undo(), 0);
        Due.due("count(0)", x.count(0), 0);
        x.traveller(6, 4, 0);
        x.traveller(6, 4, 15);
        x.row(0, 1, 9);
        x.goal(0, 3);
        x.gate(1, 0);
        x.gate(7, 5);
        x.chart(0, 0b100);
        x.see(0, 1, 4);
        x.see(0, 0, 0);
        x.plan(0, 0);
        x.book(1, 7);
        Due.nation(x, "open 1 p=0;fade 7");
        x.pass(2);
        int[] was = all(x);
        Due.due("image()", x.image(), 2);
        x.goal(0, 12);
        x.put(0, 8);
        x.put(1, 3);
        x.chart(1, 9);
        x.row(0, 1, 2);
        x.row(1, 3, 2);
        x.gate(7, 2);
        x.traveller(1, 1, 1);
        x.goal(2, 2);
        x.chart(2, 5);
        x.see(-1, 0, 0);
        x.plan(-1, 0);
        x.plan(3, 2);
        x.plan(3, 2);
        x.book(-1, 0);
        x.book(2, 7);
        x.book(2, 8);
        Due.nation(x, "fade 1;shut 5 p=0");
        x.feed('x');
        x.tape(0, 3, 2);
        x.item(0, 1, 77);
        x.act(2, 1, 5);
        x.pass(30);
        for (int turn = 0; turn < 2; turn++) {
            Due.due("undo()", x.undo(), 2);
            int[] is = all(x);
            for (int i = 0; i < is.length; i++) Due.due("as it was, " + i, is[i], was[i]);
            Due.due("looked(): the book's row", x.looked(), 0);
            Due.due("the nations stay", x.count(1), 2);
            Due.due("the text stays", x.count(5), 1);
            Due.due("the tapes stay", x.read(0, 1), 77);
            Due.due("the trace stays", x.trace(0), 20);
            // What comes behind an undo leaves the image as it is.
            x.chart(0, 1);
            x.gate(0, 0);
            x.see(-1, 0, 0);
            x.plan(0, 0);
            x.book(-1, 0);
            x.pass(1);
        }
        x.undo();
        Due.due("a new one has nothing of one that was undone", x.traveller(6, 1, 1), 2);
        Due.due("its GOAL", x.of(2, 3), -5);
        Due.due("its CHART", x.of(2, 4), 0);
        Due.due("its ROW", x.row(2, 1, 4), 0);
        Due.due("the next nation's number", Due.nation(x, "fade 2"), -10 - 0);
        Due.due("the next nation's number", Due.nation(x, "fade 2"), 2);
        Due.due("a new image", x.image(), 3);
        Due.due("FADE", x.told(1), 2);
        x.undo();
        Due.due("FADE", x.told(1), 2);
    }

    /** All rows of all that is told by hand, and the last traveller's ROW. */
    private static void fullImage() {
        RefusalMaps x = new RefusalMaps();
        for (int i = 0; i < 6; i++) x.traveller(6, i, 15);
        for (int part = 0; part < 4; part++) x.row(5, part, 5 + part);
        for (int i = 0; i < 5; i++) x.see(i, 12 - i, 15);
        for (int i = 0; i < 7; i++) x.plan(2, 50);
        x.plan(1, 5);
        for (int i = 0; i < 7; i++) x.book(i % 6, 0);
        x.book(5, 9);
        x.chart(0, 1 << 10);
        x.chart(0, 0);
        x.image();
        for (int part = 0; part < 4; part++) x.row(5, part, 0);
        x.see(-1, 0, 0);
        for (int i = 0; i < 5; i++) x.see(0, 0, 0);
        x.plan(-1, 0);
        for (int i = 0; i < 8; i++) x.plan(3, 5);
        x.book(-1, 0);
        for (int i = 0; i < 8; i++) x.book(0, 1);
        Due.due("see(..) is full", x.see(0, 0, 0), -4);
        Due.due("undo()", x.undo(), 6);
        Due.due("FROM: all seen is at 15", x.of(4, 10), 1 << 15);
        Due.due("looked(): the eighth", x.looked(), 7);
        x.put(5, 0);
        x.goal(5, 0);
        Due.due("ends: no row takes a goal away", x.ends(0), 1);
        // A welcome of 3 and the row, less 4.
        for (int part = 0; part < 4; part++) Due.due("welcome", x.welcome(5, 12 + part), 3 + 5 + part - 4);
        for (int part = 0; part < 4; part++) Due.due("row", x.row(5, part, 1), 5 + part);
        // In what is asked, too, each has its own row.
        x.goal(5, 1);
        Due.due("refused at 1 by 3, 1 and -4: on(1, 15)", x.on(1, 15), 1);
        x.put(5, 15);
        x.goal(5, 14);
        Due.due("3, 1 and -4 at 14: on(1, 15)", x.on(1, 15), 15);
        x.row(5, 2, 2);
        Due.due("3, 2 and -4 at 14: on(1, 15)", x.on(1, 15), 14);
    }

    private static void imageOfNone() {
        RefusalMaps x = new RefusalMaps();
        x.image();
        x.traveller(0, 0, 0);
        Due.nation(x, "open 5 p=0;fade 4");
        x.undo();
        x.traveller(0, 0, 0);
        Due.due("no nation held: FADE", x.told(1), 0);
        Due.due("no nation held: welcome", x.welcome(0, 0), 3);
        Due.due("count(1)", x.count(1), 1);
        // All that one has goes, when it is undone: a ROW, too.
        x.undo();
        x.traveller(6, 0, 0);
        x.row(0, 2, 5);
        x.pass(3);
        x.undo();
        x.traveller(6, 0, 0);
        Due.due("its ROW", x.row(0, 2, 1), 0);
        Due.due("HOUR", x.told(0), 0);
    }

    private static int[] all(RefusalMaps x) {
        int[] all = new int[60];
        int n = 0;
        for (int what = 0; what < 26; what++) all[n++] = x.told(what);
        for (int one = 0; one < 2; one++) {
            for (int what = 0; what < 11; what++) all[n++] = x.of(one, what);
        }
        for (int what = 0; what < 5; what++) all[n++] = what == 1 ? 0 : x.count(what);
        all[n++] = x.ends(0);
        all[n++] = x.ends(1);
        all[n++] = x.looked();
        all[n++] = x.welcome(0, 5);
        all[n++] = x.welcome(1, 7);
        return all;
    }

    public static void main(String[] args) {
        planning();
        ending();
        endingOfMany();
        booking();
        fullImage();
        image();
        imageOfNone();
        Due.end();
    }
}
