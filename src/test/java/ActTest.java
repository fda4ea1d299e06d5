/** Promises 28 to 31: acts, the trace, taken, count. */
public final class ActTest {
    /** Six of the kinds 1 .. 6, then one of kind 0 in an object of its own; all of v 5. */
    private static RefusalMaps six() {
        RefusalMaps x = new RefusalMaps();
        for (int k = 0; k < 6; k++) x.traveller(k + 1, 5, 0);
        return x;
    }

    private static void acts(RefusalMaps x, int one, int act, int with, long answer, int... trace) {
        String call = "act(" + one + ", " + act + ", " + with + ")";
        Due.due(call, x.act(one, act, with), answer);
        Due.due(call + ": count(6)", x.count(6), trace.length);
        for (int i = 0; i < trace.length; i++) Due.due(call + ": trace(" + i + ")", x.trace(i), trace[i]);
        Due.due(call + ": trace beyond", x.trace(trace.length), -1);
        Due.due(call + ": trace(-1)", x.trace(-1), -1);
    }

    private static void acting() {
        RefusalMaps t = new RefusalMaps();
        t.traveller(1, 0, 0);
        t.traveller(0, 5, 0);
        acts(t, 1, 0, 10, 11, 10);
        acts(t, 1, 1, 10, 6, 11, 10);
        acts(t, 1, 2, 10, 12, 12, 11, 10);
        RefusalMaps x = six();
        // BEAUTY, i 0
        acts(x, 0, 0, 10, 10, 10);
        acts(x, 0, 1, 10, 5 ^ 6, 20, 11, 10);
        acts(x, 0, 2, 10, (5 ^ 6) * 2, 12, 20, 11, 10);
        // SAILOR, i 1
        acts(x, 1, 0, 10, 31, 30, 10);
        acts(x, 1, 1, 10, 26, 11, 30, 10);
        acts(x, 1, 2, 10, 52, 12, 11, 30, 10);
        // CHILD, i 2
        acts(x, 2, 0, 10, 12, 10);
        acts(x, 2, 1, 10, 7, 11, 10);
        acts(x, 2, 2, 10, 14 + (1 + 2 - 5), 40, 12, 11, 10, 11, 10);
        // SOLDIER, i 3
        acts(x, 3, 0, 10, -13, 50, 10);
        acts(x, 3, 1, 10, (-14 - 5) ^ 6, 51, 20, 11, 50, 10);
        acts(x, 3, 2, 10, ((-14 - 5) ^ 6) * 2, 12, 51, 20, 11, 50, 10);
        // OLD, i 4
        acts(x, 4, 0, 10, 34, 30, 10);
        acts(x, 4, 1, 10, 29, 11, 30, 10);
        acts(x, 4, 2, 10, (6 * 3 + 4 - 5) * 2, 60, 12, 11, 30, 10);
        // TOLD, i 5
        acts(x, 5, 0, 10, 15 ^ 5, 71, 10);
        acts(x, 5, 1, 10, (15 ^ 5) - 5 + 7, 70, 11, 71, 10, 10);
        acts(x, 5, 2, 10, ((15 ^ 5) - 5 + 7) * 2 + (6 ^ 5) - 5 + 7, 40, 12, 70, 11, 71, 10, 10, 70, 11, 71, 10, 10);
    }

    private static void wrapping() {
        RefusalMaps x = six();
        acts(x, 1, 0, Integer.MAX_VALUE, Integer.MAX_VALUE * 3 + 1, 30, 10);
        acts(x, 2, 0, Integer.MAX_VALUE, Integer.MIN_VALUE + 1, 10);
        acts(x, 3, 0, Integer.MIN_VALUE + -3, Integer.MIN_VALUE, 50, 10);
        acts(x, 0, 2, Integer.MIN_VALUE, ((Integer.MIN_VALUE - 5) ^ 6) * 2, 12, 20, 11, 10);
    }

    private static void none() {
        RefusalMaps x = six();
        for (int[] no : new int[][] {{-1, 0}, {6, 0}, {0, -1}, {0, 3}, {Integer.MIN_VALUE, Integer.MAX_VALUE}}) {
            x.act(5, 2, 1);
            Due.due("count(6)", x.count(6), 12);
            Due.due("act of none", x.act(no[0], no[1], 7), 0);
            Due.due("no trace then", x.trace(0), -1);
            Due.due("count(6)", x.count(6), 0);
        }
        x.act(5, 2, 1);
        x.act(0, 0, 1);
        Due.due("the latest alone", x.count(6), 1);
        Due.due("trace(1)", x.trace(1), -1);
        Due.due("trace(20)", x.trace(20), -1);
        Due.due("trace(MAX)", x.trace(Integer.MAX_VALUE), -1);
        Due.due("trace(MIN)", x.trace(Integer.MIN_VALUE), -1);
    }

    private static void taking() {
        int[] above = {0, 0, 0, 0, 1, 2, 3};
        for (int kind = 0; kind < 7; kind++) {
            RefusalMaps x = new RefusalMaps();
            x.traveller(kind, 0, 0);
            for (int k = 0; k < 7; k++) {
                boolean is = k == kind || k == above[kind] || k == 0;
                Due.due("taken: kind " + kind + " for " + k, x.taken(0, k), is ? kind : -12);
            }
            Due.due("taken(0, 7)", x.taken(0, 7), -2);
            Due.due("taken(0, -1)", x.taken(0, -1), -2);
            Due.due("taken(1, 0)", x.taken(1, 0), -11);
            Due.due("taken(-1, 6)", x.taken(-1, 6), -11);
            Due.due("taken(1, 7): BAD comes first", x.taken(1, 7), -2);
        }
    }

    private static void counting() {
        RefusalMaps x = six();
        Due.due("count(-1)", x.count(-1), -2);
        Due.due("count(7)", x.count(7), -2);
        Due.nation(x, "fade 1");
        Due.nation(x, "fade 1");
        x.see(0, 0, 0);
        x.see(0, 0, 0);
        x.see(0, 0, 0);
        for (int i = 0; i < 4; i++) x.plan(0, 0);
        for (int i = 0; i < 5; i++) x.book(0, 0);
        for (int i = 0; i < 7; i++) x.feed('f');
        x.act(3, 2, 0);
        int[] counts = {6, 2, 3, 4, 5, 7, 6};
        for (int what = 0; what < 7; what++) Due.due("count(" + what + ")", x.count(what), counts[what]);
    }

    public static void main(String[] args) {
        acting();
        wrapping();
        none();
        taking();
        counting();
        Due.end();
    }
}
