/** Promises 1 to 9: a new object, travellers, welcome, goals, places, charts, gates, rows. */
public final class LandTest {
    private static void newObject() {
        RefusalMaps x = new RefusalMaps();
        for (int what = 0; what <= 6; what++) Due.due("new: count(" + what + ")", x.count(what), 0);
        Due.due("new: of(0, 0)", x.of(0, 0), -1);
        Due.due("new: told(0)", x.told(0), 0);
        Due.due("new: told(1)", x.told(1), 0);
        for (int c = 0; c < 16; c++) Due.due("new: told(10 + c)", x.told(10 + c), 3);
        Due.due("new: undo()", x.undo(), -3);
        Due.due("new: trace(0)", x.trace(0), -1);
        for (int t = 0; t < 6; t++) Due.due("new: item(t, 0, 0)", x.item(t, 0, 0), -11);
        // One object knows nothing of another.
        x.gate(3, 8);
        x.traveller(0, 0, 0);
        RefusalMaps y = new RefusalMaps();
        Due.due("another: told(13)", y.told(13), 3);
        Due.due("another: count(0)", y.count(0), 0);
    }

    private static void travellers() {
        RefusalMaps x = new RefusalMaps();
        Due.due("traveller(-1, 0, 0)", x.traveller(-1, 0, 0), -1);
        Due.due("traveller(7, 0, 0)", x.traveller(7, 0, 0), -1);
        Due.due("traveller(0, 0, -1)", x.traveller(0, 0, -1), -1);
        Due.due("traveller(0, 0, 16)", x.traveller(0, 0, 16), -1);
        Due.due("traveller(0, -1, 0)", x.traveller(0, -1, 0), -2);
        Due.due("traveller(0, 10, 0)", x.traveller(0, 10, 0), -2);
        Due.due("traveller(7, 10, 0): NONE comes first", x.traveller(7, 10, 0), -1);
        Due.due("none of them came", x.count(0), 0);
        for (int k = 0; k < 6; k++) {
            Due.due("traveller(k, 9 - k, 15 - k)", x.traveller(k + 1, 9 - k, 15 - k), k);
            Due.due("of(k, 0)", x.of(k, 0), k + 1);
            Due.due("of(k, 1)", x.of(k, 1), 9 - k);
            Due.due("of(k, 2)", x.of(k, 2), 15 - k);
            Due.due("of(k, 3)", x.of(k, 3), -5);
            Due.due("of(k, 4)", x.of(k, 4), 0);
            Due.due("of(k, 5)", x.of(k, 5), 0);
        }
        Due.due("traveller(0, 0, 0): the seventh", x.traveller(0, 0, 0), -4);
        Due.due("traveller(0, 10, 0): BAD comes first", x.traveller(0, 10, 0), -2);
        Due.due("traveller(-1, 0, 0): NONE comes first", x.traveller(-1, 0, 0), -1);
        Due.due("count(0)", x.count(0), 6);
        for (int what : new int[] {-1, 11, Integer.MAX_VALUE, Integer.MIN_VALUE}) Due.due("of(0, what)", x.of(0, what), -1);
        for (int one : new int[] {-1, 6, Integer.MAX_VALUE, Integer.MIN_VALUE}) Due.due("of(one, 0)", x.of(one, 0), -1);
    }

    /** All are of v 5, at cells 0 .. 5 and by gates of 7 at cell 9, 0 at cell 2. */
    private static void welcomes() {
        RefusalMaps x = new RefusalMaps();
        x.gate(9, 7);
        x.gate(2, 0);
        for (int k = 0; k < 6; k++) x.traveller(k, 5, k);
        Due.due("TRAVELLER at 9: SUM", x.welcome(0, 9), 7);
        Due.due("BEAUTY at 9: SUM and v", x.welcome(1, 9), 12);
        Due.due("SAILOR at 9: the half and 1", x.welcome(2, 9), 4);
        Due.due("CHILD at 9: SUM", x.welcome(3, 9), 7);
        Due.due("SOLDIER at 9: nobody there", x.welcome(4, 9), 12);
        Due.due("OLD at 9", x.welcome(5, 9), 4);
        Due.due("CHILD at 4: less than v", x.welcome(3, 4), 9);
        Due.due("CHILD at 5: not less than v", x.welcome(3, 5), 3);
        Due.due("CHILD at 2: less than v, the gate shut", x.welcome(3, 2), 9);
        Due.due("SOLDIER at 0: another there", x.welcome(4, 0), 0);
        Due.due("SOLDIER at 4: itself there", x.welcome(4, 4), 8);
        x.put(0, 4);
        Due.due("SOLDIER at 4: another there, too", x.welcome(4, 4), 0);
        x.chart(5, 0b10101);
        Due.due("OLD with 3 drawn", x.welcome(5, 9), 5);
        x.chart(5, 65535);
        Due.due("OLD with 16 drawn", x.welcome(5, 9), 12);
        x.chart(2, 65535);
        Due.due("SAILOR looks at no chart", x.welcome(2, 9), 4);
        // Below 0: the half is cut toward 0.
        Due.due("nation", Due.nation(x, "shut 10 c=9"), 0);
        Due.due("TRAVELLER below 0", x.welcome(0, 9), -3);
        Due.due("BEAUTY", x.welcome(1, 9), 2);
        Due.due("SAILOR: -3 by 2, and 1", x.welcome(2, 9), 0);
        Due.due("OLD: -3 by 2, and 1, and 8", x.welcome(5, 9), 8);
        Due.due("TRUE of SAILOR: 0 is refused", x.of(2, 7), 1 << 9);
        Due.due("TRUE of TRAVELLER", x.of(0, 7), 1 << 9 | 1 << 2);
        Due.due("TRUE of CHILD", x.of(3, 7), 1 << 9);
        for (int[] no : new int[][] {{-1, 0}, {6, 0}, {0, -1}, {0, 16}}) {
            Due.due("welcome of none", x.welcome(no[0], no[1]), -10001);
        }
    }

    private static void goals() {
        RefusalMaps x = new RefusalMaps();
        Due.due("goal(0, 0) without any", x.goal(0, 0), -1);
        x.traveller(0, 0, 0);
        Due.due("goal(0, 7)", x.goal(0, 7), -5);
        Due.due("goal(0, 0)", x.goal(0, 0), 7);
        Due.due("goal(0, 16)", x.goal(0, 16), -1);
        Due.due("goal(0, -2)", x.goal(0, -2), -1);
        Due.due("goal(1, 5)", x.goal(1, 5), -1);
        Due.due("of(0, 3)", x.of(0, 3), 0);
        Due.due("goal(0, -1)", x.goal(0, -1), 0);
        Due.due("of(0, 3)", x.of(0, 3), -5);
        Due.due("goal(0, 15)", x.goal(0, 15), -5);
    }

    private static void places() {
        RefusalMaps x = new RefusalMaps();
        x.traveller(0, 0, 4);
        Due.due("put(0, 15)", x.put(0, 15), 4);
        Due.due("put(0, 0)", x.put(0, 0), 15);
        Due.due("put(0, 16)", x.put(0, 16), -1);
        Due.due("put(0, -1)", x.put(0, -1), -1);
        Due.due("put(1, 0)", x.put(1, 0), -1);
        Due.due("put(-1, 0)", x.put(-1, 0), -1);
        Due.due("of(0, 2)", x.of(0, 2), 0);
    }

    private static void charts() {
        RefusalMaps x = new RefusalMaps();
        x.traveller(0, 0, 4);
        Due.due("chart(0, 65535)", x.chart(0, 65535), 0);
        Due.due("chart(0, 5)", x.chart(0, 5), 65535);
        Due.due("chart(0, 65536)", x.chart(0, 65536), -2);
        Due.due("chart(0, -1)", x.chart(0, -1), -2);
        Due.due("chart(1, -1): NONE comes first", x.chart(1, -1), -1);
        Due.due("chart(-1, 0)", x.chart(-1, 0), -1);
        Due.due("of(0, 4)", x.of(0, 4), 5);
        Due.due("chart(0, 0)", x.chart(0, 0), 5);
    }

    private static void gates() {
        RefusalMaps x = new RefusalMaps();
        Due.due("gate(0, 0)", x.gate(0, 0), 3);
        Due.due("gate(15, 9)", x.gate(15, 9), 3);
        Due.due("gate(15, 1)", x.gate(15, 1), 9);
        Due.due("gate(16, 1)", x.gate(16, 1), -1);
        Due.due("gate(-1, 1)", x.gate(-1, 1), -1);
        Due.due("gate(0, 10)", x.gate(0, 10), -2);
        Due.due("gate(0, -1)", x.gate(0, -1), -2);
        Due.due("gate(16, 10): NONE comes first", x.gate(16, 10), -1);
        Due.due("told(10)", x.told(10), 0);
        Due.due("told(25)", x.told(25), 1);
    }

    private static void rows() {
        RefusalMaps x = new RefusalMaps();
        x.traveller(6, 5, 0);
        x.traveller(3, 5, 0);
        for (int part = 0; part < 4; part++) Due.due("row(0, part, part + 2)", x.row(0, part, part + 2), 0);
        for (int part = 0; part < 4; part++) Due.due("row(0, part, 9 - part)", x.row(0, part, 9 - part), part + 2);
        // As CHILD (9 below v, else the gate of 3), and the row, less 4.
        Due.due("welcome(0, 4)", x.welcome(0, 4), 9 + 9 - 4);
        Due.due("welcome(0, 5)", x.welcome(0, 5), 3 + 8 - 4);
        Due.due("welcome(0, 15)", x.welcome(0, 15), 3 + 6 - 4);
        Due.due("row(0, 4, 0)", x.row(0, 4, 0), -1);
        Due.due("row(0, -1, 0)", x.row(0, -1, 0), -1);
        Due.due("row(2, 0, 0)", x.row(2, 0, 0), -1);
        Due.due("row(0, 0, 10)", x.row(0, 0, 10), -2);
        Due.due("row(0, 0, -1)", x.row(0, 0, -1), -2);
        Due.due("row(1, 0, 0)", x.row(1, 0, 0), -3);
        Due.due("row(1, 4, 10): NONE comes first", x.row(1, 4, 10), -1);
        Due.due("row(1, 0, 10): BAD comes first", x.row(1, 0, 10), -2);
        Due.due("row(0, 0, 0)", x.row(0, 0, 0), 9);
        // A row of 0 makes 3 - 4: refused.
        Due.due("row(0, 1, 0)", x.row(0, 1, 0), 8);
        Due.due("welcome(0, 13)", x.welcome(0, 13), -1);
        Due.due("TRUE", x.of(0, 7), 1 << 5 | 1 << 9 | 1 << 13 | 1 << 8 | 1 << 12);
    }

    public static void main(String[] args) {
        newObject();
        travellers();
        welcomes();
        goals();
        places();
        charts();
        gates();
        rows();
        Due.end();
    }
}
