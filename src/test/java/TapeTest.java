/** Promises 25 and 32 to 35: judging, and tapes. */
public final class TapeTest {
    private static final int MAX = Integer.MAX_VALUE, MIN = Integer.MIN_VALUE;

    private static void making() {
        RefusalMaps x = new RefusalMaps();
        Due.due("tape(-1, 0, 1)", x.tape(-1, 0, 1), -1);
        Due.due("tape(6, 0, 1)", x.tape(6, 0, 1), -1);
        Due.due("tape(6, 9, -1): NONE comes first", x.tape(6, 9, -1), -1);
        Due.due("tape(0, 5, 1)", x.tape(0, 5, 1), -2);
        Due.due("tape(0, -2, 1)", x.tape(0, -2, 1), -2);
        Due.due("tape(0, 5, -1): BAD comes first", x.tape(0, 5, -1), -2);
        Due.due("tape(0, 0, 61)", x.tape(0, 0, 61), -2);
        Due.due("tape(0, 0, MAX)", x.tape(0, 0, MAX), -2);
        Due.due("tape(0, 0, -1)", x.tape(0, 0, -1), -14);
        Due.due("tape(0, 4, MIN)", x.tape(0, 4, MIN), -14);
        Due.due("nothing is there yet", x.item(0, 0, 0), -11);
        for (int sort = 0; sort < 5; sort++) {
            Due.due("tape(sort, sort, 60)", x.tape(sort, sort, 60), 1);
            Due.due("item(sort, 0, 1)", x.item(sort, 0, 1), 1);
            Due.due("item(sort, 59, 1)", x.item(sort, 59, 1), 1);
            Due.due("item(sort, 60, 1)", x.item(sort, 60, 1), -13);
            Due.due("read(sort, 59)", x.read(sort, 59), 1);
            Due.due("read(sort, 58)", x.read(sort, 58), 0);
            Due.due("read(sort, 60)", x.read(sort, 60), RefusalMaps.NO);
            Due.due("tape again: all 0", x.tape(sort, sort, 60), 1);
            for (int i = 0; i < 60; i++) Due.due("read(sort, i)", x.read(sort, i), 0);
        }
        Due.due("a row of none", x.tape(5, 2, 0), 1);
        Due.due("item(5, 0, 0)", x.item(5, 0, 0), -13);
        Due.due("read(5, 0)", x.read(5, 0), RefusalMaps.NO);
        Due.due("tape(5, -1, 99)", x.tape(5, -1, 99), 1);
        Due.due("item(5, 0, 0)", x.item(5, 0, 0), -11);
        Due.due("tape(5, -1, -99)", x.tape(5, -1, -99), 1);
        x.item(3, 5, 8);
        Due.due("a refused tape leaves what is there", x.tape(3, 3, 61), -2);
        Due.due("read(3, 5)", x.read(3, 5), 8);
        Due.due("shorter, then longer: all 0", x.tape(3, 3, 2), 1);
        Due.due("read(3, 5)", x.read(3, 5), RefusalMaps.NO);
        x.tape(3, 3, 10);
        Due.due("read(3, 5)", x.read(3, 5), 0);
        x.item(3, 5, 8);
        x.tape(3, -1, 0);
        Due.due("nothing there: read(3, 5)", x.read(3, 5), RefusalMaps.NO);
        Due.due("nothing there: read(3, 0)", x.read(3, 0), RefusalMaps.NO);
    }

    private static void put(RefusalMaps x, int tape, long v, long kept) {
        Due.due("item(" + tape + ", 1, " + v + ")", x.item(tape, 1, v), 1);
        Due.due("read(" + tape + ", 1) behind " + v, x.read(tape, 1), kept);
    }

    private static void items() {
        RefusalMaps x = new RefusalMaps();
        for (int sort = 0; sort < 5; sort++) x.tape(sort, sort, 2);
        put(x, 0, 127, 127);
        put(x, 0, 128, -128);
        put(x, 0, 511, -1);
        put(x, 0, -129, 127);
        put(x, 1, 32767, 32767);
        put(x, 1, 32768, -32768);
        put(x, 1, 65536 + 5, 5);
        put(x, 2, MAX, MAX);
        put(x, 2, MAX + 1L, MIN);
        put(x, 2, 1L << 40 | 3, 3);
        put(x, 3, Long.MAX_VALUE, Long.MAX_VALUE);
        put(x, 3, Long.MIN_VALUE, Long.MIN_VALUE);
        put(x, 4, 0, 0);
        put(x, 4, 2, 1);
        put(x, 4, 1L << 40, 1);
        put(x, 4, -1, 1);
        put(x, 4, 0, 0);
        Due.due("item(-1, 0, 0)", x.item(-1, 0, 0), -1);
        Due.due("item(6, 0, 0)", x.item(6, 0, 0), -1);
        Due.due("item(5, 9, 0): NOTHING comes first", x.item(5, 9, 0), -11);
        Due.due("item(0, -1, 0)", x.item(0, -1, 0), -13);
        Due.due("item(0, 2, 0)", x.item(0, 2, 0), -13);
        Due.due("item(0, MAX, 0)", x.item(0, MAX, 0), -13);
        Due.due("item(0, MIN, 0)", x.item(0, MIN, 0), -13);
        for (int[] no : new int[][] {{-1, 0}, {6, 0}, {5, 0}, {0, -1}, {0, 2}, {0, MAX}, {0, MIN}}) {
            Due.due("read of none", x.read(no[0], no[1]), RefusalMaps.NO);
        }
    }

    private static void shifting() {
        RefusalMaps x = new RefusalMaps();
        x.tape(0, 2, 6);
        x.tape(1, 2, 4);
        x.tape(2, 3, 6);
        for (int i = 0; i < 6; i++) x.item(0, i, i + 1);
        Due.due("shift up", x.shift(0, 0, 0, 2, 4), 4);
        int[] up = {1, 2, 1, 2, 3, 4};
        for (int i = 0; i < 6; i++) Due.due("shifted up", x.read(0, i), up[i]);
        for (int i = 0; i < 6; i++) x.item(0, i, i + 1);
        Due.due("shift down", x.shift(0, 2, 0, 0, 4), 4);
        int[] down = {3, 4, 5, 6, 5, 6};
        for (int i = 0; i < 6; i++) Due.due("shifted down", x.read(0, i), down[i]);
        Due.due("shift to another", x.shift(0, 1, 1, 0, 3), 3);
        int[] other = {4, 5, 6, 0};
        for (int i = 0; i < 4; i++) Due.due("shifted to another", x.read(1, i), other[i]);
        for (int i = 0; i < 6; i++) Due.due("this stays", x.read(0, i), down[i]);
        Due.due("none of the items, at the ends", x.shift(0, 6, 1, 4, 0), 0);
        Due.due("all of the items", x.shift(1, 0, 0, 2, 4), 4);
        Due.due("beyond this", x.shift(1, 1, 0, 0, 4), -13);
        Due.due("beyond the other", x.shift(0, 0, 1, 1, 4), -13);
        Due.due("none, beyond this", x.shift(0, 7, 1, 0, 0), -13);
        Due.due("none, beyond the other", x.shift(0, 0, 1, 5, 0), -13);
        int[][] places = {{-1, 0, 1}, {0, -1, 1}, {0, 0, -1}, {0, 0, 7}, {MAX, 0, 1}, {0, MAX, 1}, {0, 0, MAX}, {1, 1, MAX}, {MAX, MAX, MAX},
            {MIN, 0, 1}, {0, MIN, 1}, {0, 0, MIN}, {MAX, 0, MIN}};
        for (int[] p : places) Due.due("shift out of place", x.shift(0, p[0], 1, p[1], p[2]), -13);
        Due.due("of unlike sorts", x.shift(0, 0, 2, 0, 1), -12);
        Due.due("of unlike sorts, CAST comes first", x.shift(0, 99, 2, 0, 1), -12);
        Due.due("from nothing", x.shift(5, 0, 0, 0, 1), -11);
        Due.due("to nothing", x.shift(0, 0, 5, 0, 1), -11);
        Due.due("nothing to nothing", x.shift(5, 0, 4, -1, 1), -11);
        Due.due("from none", x.shift(6, 0, 5, 0, 1), -1);
        Due.due("to none", x.shift(5, 0, -1, 0, 1), -1);
        Due.due("read(0, 2)", x.read(0, 2), 4);
    }

    private static void judging() {
        RefusalMaps x = new RefusalMaps();
        Due.due("judge(-1, 0)", x.judge(-1, 0), -1);
        Due.due("judge(6, 0)", x.judge(6, 0), -1);
        Due.due("judge nothing", x.judge(0, 0), 100);
        Due.due("judge nothing, below 0", x.judge(0, -1), 100);
        for (int sort = 1; sort < 5; sort++) {
            x.tape(1, sort, 20);
            Due.due("judge another sort", x.judge(1, 0), -12);
            Due.due("judge another sort, below 0", x.judge(1, -1), -12);
        }
        x.tape(0, 0, 18);
        for (int i = 0; i < 18; i++) x.item(0, i, 3);
        Due.due("all are as told", x.judge(0, 0), -5);
        Due.due("all are as told from 2 on", x.judge(0, 2), -5);
        Due.due("the row ends ahead", x.judge(0, 3), 115);
        Due.due("the row ends ahead", x.judge(0, 17), 101);
        Due.due("at its end", x.judge(0, 18), 100);
        for (int i : new int[] {19, MAX, MAX - 15, -1, MIN}) Due.due("judge(0, " + i + ")", x.judge(0, i), 100);
        x.gate(15, 4);
        Due.due("15 is otherwise", x.judge(0, 0), 15);
        Due.due("the row ends ahead of that", x.judge(0, 3), 115);
        x.gate(4, 2);
        Due.due("4 is otherwise", x.judge(0, 0), 4);
        x.item(0, 4, 2);
        Due.due("4 is as told", x.judge(0, 0), 15);
        Due.due("from 1 on 3 is otherwise", x.judge(0, 1), 3);
        x.item(0, 15, 4 + 256);
        Due.due("the lowest bits: all as told", x.judge(0, 0), -5);
        x.tape(0, 0, 0);
        Due.due("a row of none", x.judge(0, 0), 100);
    }

    public static void main(String[] args) {
        making();
        items();
        shifting();
        judging();
        Due.end();
    }
}
