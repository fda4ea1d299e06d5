/**
 * The edges that the document's sentences name, promise by promise: too small, too large, empty, full, wrapping. What
 * is refused is looked at in RefusalTest; here is what stands right beside it.
 */
public final class EdgeTest {
    private static final int MAX = Integer.MAX_VALUE, MIN = Integer.MIN_VALUE;
    private static final int ALL = 65535;

    private static RefusalMaps one(int kind, int v, int cell) {
        RefusalMaps x = new RefusalMaps();
        Due.due("traveller(" + kind + ", " + v + ", " + cell + ")", x.traveller(kind, v, cell), 0);
        return x;
    }

    /** "No TRAVELLERS, no NATION"; "3 at first", "none at first", "0 at first"; "without one there are no CLAUSES". */
    private static void promise1() {
        RefusalMaps x = new RefusalMaps();
        Due.due("new: who is at its goal", x.told(2), 0);
        Due.due("new: noes of all", x.told(3), 0);
        Due.due("new: pass(40)", x.pass(40), 40);
        Due.due("new: image()", x.image(), 0);
        Due.due("new: looked()", x.looked(), -5);
        for (int tape = 0; tape < 6; tape++) Due.due("new: judge(" + tape + ", 0)", x.judge(tape, 0), 100);
        for (int c = 0; c < 16; c++) Due.due("new: gate(" + c + ", 0)", x.gate(c, 0), 3);
        RefusalMaps y = one(6, 0, 0);
        for (int part = 0; part < 4; part++) Due.due("a new one's ROW", y.row(0, part, 0), 0);
        Due.due("without a NATION: welcome(0, 9) is the gate, less 4", y.welcome(0, 9), -1);
        y.chart(0, ALL);
        y.pass(40);
        Due.due("without a NATION: FADE", y.told(1), 0);
        Due.due("without a NATION no chart fades", y.of(0, 4), ALL);
    }

    /** "A TRAVELLER AT a CELL: its number", by the least and the greatest of all. */
    private static void promise2() {
        for (int[] by : new int[][] {{0, 0, 0}, {6, 0, 0}, {0, 9, 0}, {0, 0, 15}, {6, 9, 15}}) {
            RefusalMaps x = one(by[0], by[1], by[2]);
            for (int what = 0; what < 3; what++) Due.due("of(0, " + what + ")", x.of(0, what), by[what]);
        }
        // Several can be at one cell.
        RefusalMaps x = new RefusalMaps();
        for (int i = 0; i < 6; i++) Due.due("the number", x.traveller(i, 0, 7), i);
        for (int i = 0; i < 6; i++) Due.due("AT", x.of(i, 2), 7);
    }

    private static final int[] HALVES = {-3, -3, -2, -2, -1, -1, 0, 0, 1, 1};

    /** "may be below 0"; "cut toward 0"; "by 2 (cut)"; "less than v"; "at CELL modulo 4"; "other than it". */
    private static void promise4() {
        RefusalMaps sailor = one(2, 0, 0);
        Due.nation(sailor, "shut 9 p=0");
        RefusalMaps old = one(5, 0, 0);
        for (int gate = 0; gate < 10; gate++) {
            sailor.gate(5, gate);
            Due.due("SAILOR by a SUM of " + (gate - 9), sailor.welcome(0, 5), HALVES[gate]);
            old.gate(5, gate);
            Due.due("OLD by a SUM of " + gate, old.welcome(0, 5), gate / 2 + 1);
        }
        old.gate(5, 0);
        for (int n = 0; n <= 16; n++) {
            old.chart(0, (1 << n) - 1);
            Due.due("OLD with " + n + " drawn", old.welcome(0, 5), 1 + n / 2);
        }
        for (int v = 0; v < 10; v++) {
            RefusalMaps child = one(3, v, 0);
            RefusalMaps told = one(6, v, 0);
            for (int part = 0; part < 4; part++) told.row(0, part, 2 * part + 3);
            for (int c = 0; c < 16; c++) {
                Due.due("CHILD of v " + v + " at " + c, child.welcome(0, c), c < v ? 9 : 3);
                Due.due("TOLD of v " + v + " at " + c, told.welcome(0, c), (c < v ? 9 : 3) + 2 * (c % 4) + 3 - 4);
            }
        }
        for (int v : new int[] {0, 9}) {
            RefusalMaps beauty = one(1, v, 0);
            beauty.traveller(4, v, 3);
            beauty.traveller(4, v, 3);
            for (int gate : new int[] {0, 9}) {
                for (int c : new int[] {0, 3, 15}) beauty.gate(c, gate);
                Due.due("BEAUTY", beauty.welcome(0, 15), gate + v);
                Due.due("BEAUTY where others are", beauty.welcome(0, 3), gate + v);
                Due.due("SOLDIER where nobody is", beauty.welcome(1, 15), gate + v);
                Due.due("SOLDIER where it is and another is", beauty.welcome(1, 3), gate + v - 8);
                Due.due("SOLDIER where one with a lesser number is", beauty.welcome(2, 0), gate + v - 8);
                beauty.put(0, 3);
                Due.due("SOLDIER where two others are: 8 once", beauty.welcome(2, 3), gate + v - 8);
                beauty.put(0, 0);
            }
        }
    }

    /** The greatest and the least SUM: more than eight clauses of it are no text of 100. */
    private static void greatestAndLeast() {
        RefusalMaps greatest = one(1, 9, 0);
        greatest.gate(0, 9);
        Due.due("open 99, eight times", Due.nation(greatest, "open 99 p=0" + ";open 99 p=0".repeat(7)), 0);
        Due.due("the greatest of a BEAUTY", greatest.welcome(0, 0), 8 * 99 + 9 + 9);
        RefusalMaps least = one(6, 0, 0);
        least.traveller(2, 0, 0);
        least.gate(0, 0);
        Due.due("shut 99, eight times", Due.nation(least, "shut 99 p<9" + ";shut 99 p<9".repeat(7)), 0);
        Due.due("the least of a TOLD", least.welcome(0, 0), -8 * 99 - 4);
        Due.due("the least of a SAILOR", least.welcome(1, 0), -4 * 99 + 1);
    }

    /** "It is REFUSED at a CELL, if WELCOME is 0 or below": by a WELCOME of 0 and of 1 it tries cell 1. */
    private static void refusedAtZero(String kind, RefusalMaps x, int welcome) {
        boolean refused = welcome <= 0;
        x.goal(0, 1);
        int drawn = x.of(0, 4);
        Due.due(kind + ": WELCOME", x.welcome(0, 1), welcome);
        Due.due(kind + ": TRUE", x.of(0, 7) >> 1 & 1, refused ? 1 : 0);
        Due.due(kind + ": STRAIGHT", x.straight(0, 1), refused ? -5 : 1);
        Due.due(kind + ": THERE behind an hour", x.of(0, 6) == 1 ? 1 : 0, refused ? 0 : 1);
        x.pass(1);
        Due.due(kind + ": AT", x.of(0, 2), refused ? 0 : 1);
        Due.due(kind + ": CHART", x.of(0, 4), refused ? drawn | 2 : drawn);
        Due.due(kind + ": NOES", x.of(0, 5), refused ? 1 : 0);
    }

    private static void refusedOrNot() {
        for (int welcome = -1; welcome <= 1; welcome++) {
            RefusalMaps traveller = one(0, 7, 0);
            Due.nation(traveller, "shut 1 c=1");
            traveller.gate(1, welcome + 1);
            refusedAtZero("TRAVELLER", traveller, welcome);
            RefusalMaps beauty = one(1, 2, 0);
            Due.nation(beauty, "shut 3 c=1");
            beauty.gate(1, welcome + 1);
            refusedAtZero("BEAUTY", beauty, welcome);
            RefusalMaps sailor = one(2, 7, 0);
            Due.nation(sailor, "shut 5 c=1");
            sailor.gate(1, 2 * welcome + 2);
            refusedAtZero("SAILOR: a SUM of " + (2 * welcome - 3), sailor, new int[] {-1, 0, 1}[welcome + 1]);
            RefusalMaps child = one(3, 1, 0);
            Due.nation(child, "shut 1 c=1");
            child.gate(1, welcome + 1);
            refusedAtZero("CHILD", child, welcome);
            RefusalMaps soldier = one(4, 0, 0);
            soldier.traveller(0, 0, 1);
            soldier.gate(1, welcome + 8);
            refusedAtZero("SOLDIER", soldier, welcome);
            RefusalMaps old = one(5, 7, 0);
            Due.nation(old, "shut 6 c=1");
            old.gate(1, 0);
            old.chart(0, (1 << 4 + 2 * welcome) - 1 << 8);
            refusedAtZero("OLD", old, welcome);
            RefusalMaps told = one(6, 0, 0);
            told.row(0, 1, welcome + 1);
            refusedAtZero("TOLD", told, welcome);
        }
    }

    /** What each of these had ahead: "which it had (-5: none)", "where it was", "what it was". */
    private static void promises5To9() {
        RefusalMaps x = one(6, 9, 15);
        Due.due("goal(0, -1): it had none", x.goal(0, -1), -5);
        Due.due("goal(0, 15): where it is", x.goal(0, 15), -5);
        Due.due("told(2): at its goal at once", x.told(2), 1);
        Due.due("goal(0, 15): the same", x.goal(0, 15), 15);
        Due.due("goal(0, 0)", x.goal(0, 0), 15);
        Due.due("goal(0, -1)", x.goal(0, -1), 0);
        Due.due("put(0, 15): where it is", x.put(0, 15), 15);
        Due.due("put(0, 0)", x.put(0, 0), 15);
        for (int bit = 0; bit < 16; bit++) {
            Due.due("chart(0, 1 << " + bit + ")", x.chart(0, 1 << bit), bit == 0 ? 0 : 1 << bit - 1);
            Due.due("of(0, 4)", x.of(0, 4), 1 << bit);
        }
        Due.due("chart(0, 0)", x.chart(0, 0), 1 << 15);
        Due.due("chart(0, 65535)", x.chart(0, ALL), 0);
        Due.due("put(0, 3): a cell that is drawn", x.put(0, 3), 0);
        for (int c = 0; c < 16; c++) {
            Due.due("gate(" + c + ", 9)", x.gate(c, 9), 3);
            Due.due("gate(" + c + ", 0)", x.gate(c, 0), 9);
            Due.due("told(10 + " + c + ")", x.told(10 + c), 0);
            for (int other = c + 1; other < 16; other++) Due.due("another gate stays", x.told(10 + other), 3);
        }
        RefusalMaps y = new RefusalMaps();
        for (int i = 0; i < 6; i++) y.traveller(6, 0, 0);
        for (int i = 0; i < 6; i++) {
            for (int part = 0; part < 4; part++) Due.due("row(" + i + ", " + part + ", 9)", y.row(i, part, 9), 0);
            for (int part = 0; part < 4; part++) Due.due("row(" + i + ", " + part + ", 0)", y.row(i, part, 0), 9);
        }
        RefusalMaps z = new RefusalMaps();
        for (int kind = 0; kind < 6; kind++) z.traveller(kind, 0, 0);
        for (int kind = 0; kind < 6; kind++) Due.due("row of KIND " + kind, z.row(kind, 0, 0), -3);
    }

    private static final String LONG = "open 12 !(p<3|k=10)&c>5;shut 7 ((v=99));fade 40;open 0 !!!(h>00&g=1)|p=0";

    /** Each byte of a good text made another: the FAULT is there. Each text that ends too early: at its end. */
    private static void faults() {
        RefusalMaps whole = new RefusalMaps();
        Due.due("nation()", Due.nation(whole, LONG), 0);
        for (int place = 0; place < LONG.length(); place++) {
            for (char wrong : new char[] {0, 127, '~', 'A', '"', 'x', ','}) {
                RefusalMaps x = new RefusalMaps();
                Due.due("another byte at " + place, Due.nation(x, LONG.substring(0, place) + wrong + LONG.substring(place + 1)), -10 - place);
            }
            RefusalMaps x = new RefusalMaps();
            String begun = LONG.substring(0, place);
            // It ends where the second digit of a number could stand, or a whole TEST does, with no ( open.
            boolean ends = place > 0 && begun.matches("(.*[<=>][0-9]{1,2}\\)*|.*fade [0-9]{1,2})") && begun.replace("(", "").length() == begun.replace(")", "").length();
            Due.due("\"" + begun + "\"", Due.nation(x, begun), ends ? 0 : -10 - place);
        }
    }

    /** "n 1 or 2 digits", "a number (1 or 2 digits)". */
    private static void digits() {
        for (String number : new String[] {"0", "9", "00", "09", "10", "99"}) {
            int n = Integer.parseInt(number);
            RefusalMaps x = one(0, 0, 0);
            Due.due("fade " + number, Due.nation(x, "fade " + number), 0);
            Due.due("FADE", x.told(1), n);
            Due.due("open " + number, Due.nation(x, "open " + number + " p=0"), 1);
            Due.due("welcome(0, 0)", x.welcome(0, 0), 3 + n);
            Due.due("shut " + number, Due.nation(x, "shut " + number + " p=0"), 2);
            Due.due("welcome(0, 0)", x.welcome(0, 0), 3 - n);
            Due.due("c=" + number, Due.nation(x, "open 1 c=" + number + ";open 2 c<" + number + ";open 4 c>" + number), 3);
            for (int c = 0; c < 16; c++) Due.due("welcome(0, " + c + ")", x.welcome(0, c), 3 + (c == n ? 1 : c < n ? 2 : 4));
        }
        for (String[] text : new String[][] {{"fade 000", "7"}, {"open 000 p=0", "7"}, {"shut 100 p=0", "7"}, {"open 1 p=000", "11"}, {"open 1 p=100", "11"}}) {
            Due.due(text[0], Due.nation(new RefusalMaps(), text[0]), -10 - Integer.parseInt(text[1]));
        }
    }

    /** "CLAUSES, 1 to 10"; "bytes, 100 at most"; "6 at most"; "FULL: there are 6 (THE TEXT stays)"; "the one that held holds". */
    private static void promises10And11() {
        for (int n = 1; n <= 12; n++) {
            String text = "fade 1" + ";fade 1".repeat(n - 1);
            Due.due(n + " clauses", Due.nation(new RefusalMaps(), text), n <= 10 ? 0 : -10 - 69);
        }
        Due.due("no clause", new RefusalMaps().nation(), -10);
        RefusalMaps x = one(0, 0, 0);
        Due.nation(x, "open 4 p=0;fade 5");
        Due.due("no text: the FAULT is 0", x.nation(), -10);
        Due.due("the one that held holds: welcome", x.welcome(0, 0), 7);
        Due.due("the one that held holds: FADE", x.told(1), 5);
        // A text of 100 with a fault at its end, or at its last byte.
        String ninety = "open 1 p=0" + "|p=0".repeat(22);
        Due.due("98 bytes", ninety.length(), 98);
        Due.due("100 bytes, to their end", Due.nation(x, ninety + "|p"), -10 - 100);
        Due.due("100 bytes, the last wrong", Due.nation(x, ninety + "|x"), -10 - 99);
        for (int i = 0; i < 100; i++) x.feed('(');
        Due.due("the 101st byte", x.feed('('), -4);
        Due.due("100 of (", x.nation(), -10);
        Due.due("it is empty then", x.feed('f'), 1);
        Due.due("f alone", x.nation(), -11);
        RefusalMaps y = one(0, 0, 0);
        for (int n = 0; n < 6; n++) Due.due("nation " + n, Due.nation(y, "open " + n + " p=0"), n);
        Due.due("FULL comes ahead of the FAULT: no text", y.nation(), -4);
        y.feed('x');
        Due.due("FULL comes ahead of the FAULT: no nation", y.nation(), -4);
        Due.due("THE TEXT stays", y.count(5), 1);
        Due.due("and goes on", y.feed('y'), 2);
        Due.due("the sixth holds", y.welcome(0, 0), 8);
        Due.due("count(1)", y.count(1), 6);
    }

    /** "A ( or ! within 4 others is none": each row of five of these, and each of four. */
    private static void withinFour() {
        for (int signs = 0; signs < 32; signs++) {
            StringBuilder open = new StringBuilder("open 1 ");
            StringBuilder closed = new StringBuilder();
            for (int i = 0; i < 5; i++) {
                boolean not = (signs >> i & 1) != 0;
                if (i == 4) {
                    Due.due("four: " + open + "p=0" + closed, Due.nation(new RefusalMaps(), open + "p=0" + closed), 0);
                    Due.due("side by side", Due.nation(new RefusalMaps(), open + "p=0" + closed + "&" + open.substring(7) + "p=1" + closed), 0);
                }
                open.append(not ? '!' : '(');
                closed.append(not ? "" : ")");
            }
            Due.due("five: " + open, Due.nation(new RefusalMaps(), open + "p=0" + closed), -10 - 11);
        }
    }

    /** "h HOUR modulo 10"; "HOUR a multiple of it"; "if FADE is above 0"; "the CELL with the least number". */
    private static void hoursAndFading() {
        RefusalMaps x = one(0, 0, 0);
        Due.nation(x, "open 10 h=9;open 20 h=0;open 40 h>9");
        for (int hour = 0; hour < 31; hour++) {
            Due.due("welcome at HOUR " + hour, x.welcome(0, 0), 3 + (hour % 10 == 9 ? 10 : hour % 10 == 0 ? 20 : 0));
            x.pass(1);
        }
        for (int fade : new int[] {0, 1, 2, 39, 40, 99}) {
            RefusalMaps y = one(0, 0, 0);
            y.traveller(0, 0, 15);
            y.traveller(0, 0, 15);
            Due.nation(y, "fade " + fade);
            y.chart(0, ALL);
            y.chart(1, 1 << 15);
            int faded = 0;
            for (int hour = 0; hour < 41; hour++) {
                y.pass(1);
                if (fade > 0 && hour % fade == 0) faded++;
                Due.due("FADE " + fade + ", behind HOUR " + hour, y.of(0, 4), faded > 15 ? 0 : ALL >> faded << faded);
                Due.due("cell 15 alone", y.of(1, 4), faded > 0 ? 0 : 1 << 15);
                Due.due("an empty CHART", y.of(2, 4), 0);
            }
        }
    }

    /** "who is AT its GOAL (bits)", "10 and c GATE of CELL c": from none to all six. */
    private static void promise12() {
        RefusalMaps x = new RefusalMaps();
        for (int i = 0; i < 6; i++) {
            x.traveller(0, 0, 3 * i);
            x.goal(i, 3 * i);
            Due.due("who is at its goal", x.told(2), (1 << i + 1) - 1);
        }
        for (int i = 0; i < 6; i++) x.goal(i, 3 * i ^ 1);
        Due.due("nobody is", x.told(2), 0);
        for (int i = 0; i < 6; i++) x.gate(3 * i ^ 1, 0);
        x.pass(1);
        Due.due("each was refused", x.told(3), 6);
        Due.due("HOUR", x.told(0), 1);
    }

    /** "n HOURS (0 .. 40) go" and "ON n HOURS (0 .. 40)": none, one by one, all at once. */
    private static void promises13And14() {
        RefusalMaps x = crowd();
        RefusalMaps y = crowd();
        for (int n = 0; n <= 40; n++) {
            for (int i = 0; i < 3; i++) {
                Due.due("on(" + n + ") AT", x.on(n, 10 + i), y.of(i, 2));
                Due.due("on(" + n + ") CHART", x.on(n, 20 + i), y.of(i, 4));
                Due.due("on(" + n + ") NOES", x.on(n, 30 + i), y.of(i, 5));
            }
            if (n < 40) y.pass(1);
        }
        Due.due("pass(40)", x.pass(40), 40);
        for (int i = 0; i < 3; i++) {
            for (int what = 0; what < 11; what++) Due.due("40 hours at once: of(" + i + ", " + what + ")", x.of(i, what), y.of(i, what));
        }
        Due.due("pass(0)", x.pass(0), 40);
        for (int i = 0; i < 3; i++) {
            for (int what : new int[] {2, 4, 5}) Due.due("no hour: of(" + i + ", " + what + ")", x.of(i, what), y.of(i, what));
        }
    }

    private static RefusalMaps crowd() {
        RefusalMaps x = one(0, 0, 0);
        x.traveller(4, 1, 3);
        x.traveller(5, 0, 12);
        Due.nation(x, "shut 4 c=5&h<7;shut 7 c=6|c=1|c=15;fade 4");
        x.goal(0, 15);
        x.goal(1, 12);
        x.goal(2, 3);
        return x;
    }

    /** "one that has no GOAL", "where it is not AT", "if there is a SHORTEST WAY": what does not try has no NOES. */
    private static void whoDoesNotTry() {
        RefusalMaps x = one(0, 0, 5);
        for (int c = 0; c < 16; c++) x.gate(c, 0);
        x.pass(1);
        Due.due("no GOAL: NOES", x.of(0, 5), 0);
        x.goal(0, 5);
        x.pass(1);
        Due.due("AT its GOAL: NOES", x.of(0, 5), 0);
        x.goal(0, 15);
        x.chart(0, 1 << 15);
        x.pass(1);
        Due.due("no way: NOES", x.of(0, 5), 0);
        Due.due("no way: CHART", x.of(0, 4), 1 << 15);
        // Each hour it is refused once more, until there is no way.
        x.chart(0, 0);
        int[] drawn = {1 << 6, 1 << 6 | 1 << 9, 1 << 6 | 1 << 9 | 2, 1 << 6 | 1 << 9 | 2 | 1 << 4};
        for (int i = 0; i < 6; i++) {
            x.pass(1);
            Due.due("refused all around: CHART, " + i, Integer.bitCount(x.of(0, 4)), Math.min(i + 1, 4));
            Due.due("refused all around: NOES, " + i, x.of(0, 5), Math.min(i + 1, 4));
        }
        Due.due("refused all around", x.of(0, 4), drawn[3]);
        Due.due("THERE", x.of(0, 6), -5);
    }

    /** "CELLS 0 .. 15 lie 4 by 4"; "of these the first as a row of numbers": each to each, nothing drawn. */
    private static void promises15And16() {
        for (int from = 0; from < 16; from++) {
            RefusalMaps x = one(0, 0, from);
            x.gate(from, 0);
            for (int to = 0; to < 16; to++) {
                int[] way = new int[6];
                int n = 0;
                int at = from;
                // The least number is above, then left, then right, then below.
                while (at / 4 > to / 4) way[n++] = at -= 4;
                while (at % 4 > to % 4) way[n++] = at -= 1;
                while (at % 4 < to % 4) way[n++] = at += 1;
                while (at / 4 < to / 4) way[n++] = at += 4;
                Due.due("way(0, " + to + ", -1) from " + from, x.way(0, to, -1), n);
                for (int k = 0; k <= n; k++) Due.due("way(0, " + to + ", " + k + ") from " + from, x.way(0, to, k), k < n ? way[k] : -5);
                Due.due("straight(0, " + to + ") from " + from, x.straight(0, to), n);
            }
        }
        for (int from = 0; from < 16; from++) {
            RefusalMaps x = one(0, 0, from);
            x.chart(0, ALL);
            for (int c = 0; c < 16; c++) x.gate(c, 0);
            for (int to = 0; to < 16; to++) {
                Due.due("all is drawn: way", x.way(0, to, -1), to == from ? 0 : -5);
                Due.due("all is drawn: the first", x.way(0, to, 0), -5);
                Due.due("all is shut: straight", x.straight(0, to), to == from ? 0 : -5);
            }
            Due.due("all is shut: TRUE", x.of(0, 7), ALL);
            Due.due("all is shut: odds, above", x.odds(0, 0), 1);
            Due.due("all is shut: odds, below", x.odds(0, 1), 16);
        }
    }

    /** "HOURS n (0 .. 12) from now": behind so many, not one less or more. */
    private static void seenFromNow() {
        for (int n = 0; n <= 12; n++) {
            // It begins at 1; goes there at once; or has 1 drawn until that fades in HOUR n - 1, and goes in the next.
            RefusalMaps x = one(0, 0, n == 0 ? 1 : 0);
            x.goal(0, 1);
            if (n > 1) {
                x.pass(1);
                x.put(0, 0);
                x.chart(0, 2);
                Due.nation(x, "fade " + (n - 1));
            }
            Due.due("THERE", x.of(0, 6), n);
            Due.due("see(0, " + n + ", 1)", x.see(0, n, 1), 1);
            Due.due("at 1 behind " + n, x.can(0, 0), 10);
            Due.due("FROM", x.of(0, 10) & 3, n == 0 ? 2 : 3);
            if (n > 0) {
                Due.due("see(0, " + (n - 1) + ", 0)", x.see(0, n - 1, 0), 2);
                Due.due("at 0 ahead of that", x.can(0, 0), 10);
                Due.due("FROM", x.of(0, 10) & 3, 1);
                Due.due("see(0, " + (n - 1) + ", 1)", x.see(0, n - 1, 1), 3);
                Due.due("not at 0 and 1", x.can(0, 0), 0);
                Due.due("not at 0 and 1", x.of(0, 10), 0);
            }
        }
    }

    /** "how many numbers v (0 .. 9) there are"; "the least (-5: none)"; "5 rows at most"; "none then". */
    private static void promises17And18() {
        RefusalMaps x = one(1, 5, 0);
        x.goal(0, 1);
        x.gate(1, 0);
        Due.nation(x, "shut 8 c=1");
        Due.due("nothing is seen: FROM", x.of(0, 10), ALL);
        Due.due("nothing is seen: CAN", x.can(0, 0), 10);
        Due.due("nothing is seen: the least", x.can(0, 1), 0);
        x.see(0, 1, 1);
        Due.due("v 9 alone: how many", x.can(0, 0), 1);
        Due.due("v 9 alone: the least", x.can(0, 1), 9);
        x.see(0, 1, 0);
        Due.due("none: how many", x.can(0, 0), 0);
        Due.due("none: the least", x.can(0, 1), -5);
        Due.due("none: FROM", x.of(0, 10), 0);
        Due.due("see(-1, ..)", x.see(-1, MIN, MAX), 0);
        x.see(0, 1, 0);
        Due.due("all but v 9: how many", x.can(0, 0), 9);
        Due.nation(x, "open 9 v>0");
        Due.due("v 0 alone: how many", x.can(0, 0), 1);
        Due.due("v 0 alone: the least", x.can(0, 1), 0);
        x.see(-1, 0, 0);
        for (int n = 1; n <= 5; n++) Due.due("see", x.see(0, n < 5 ? 0 : 12, n < 5 ? 0 : 15), n);
        Due.due("the fifth counts: how many", x.can(0, 0), 0);
        Due.due("the sixth", x.see(0, 0, 0), -4);
        Due.due("count(2)", x.count(2), 5);
        Due.due("see(-1, ..)", x.see(-1, 13, 16), 0);
        Due.due("count(2)", x.count(2), 0);
        Due.due("none then: how many", x.can(0, 0), 10);
    }

    /** "how many CELLS are drawn on all CHARTS, together": none, all of all. */
    private static void promise20() {
        RefusalMaps x = new RefusalMaps();
        for (int n = 1; n <= 6; n++) {
            x.traveller(0, 0, 0);
            Due.due("nothing is drawn, above", x.mean(0), 0);
            Due.due("nothing is drawn, below", x.mean(1), 1);
        }
        for (int i = 0; i < 6; i++) x.chart(i, ALL);
        Due.due("all is drawn, above", x.mean(0), 16);
        Due.due("all is drawn, below", x.mean(1), 1);
        x.chart(3, ALL >> 1);
        Due.due("95 by 6, above", x.mean(0), 95);
        Due.due("95 by 6, below", x.mean(1), 6);
        x.chart(3, ALL >> 2);
        Due.due("94 by 6, above", x.mean(0), 47);
        Due.due("94 by 6, below", x.mean(1), 3);
        x.chart(3, ALL >> 3);
        Due.due("93 by 6, above", x.mean(0), 31);
        Due.due("93 by 6, below", x.mean(1), 2);
        for (int i = 1; i < 6; i++) x.chart(i, 0);
        x.chart(0, 1);
        Due.due("1 by 6, above", x.mean(0), 1);
        Due.due("1 by 6, below", x.mean(1), 6);
    }

    /** "8 rows at most"; "it is empty then, 0, whatever the other is"; an empty PLAN or BOOK. */
    private static void promises21To24() {
        RefusalMaps x = one(0, 0, 0);
        x.goal(0, 8);
        Due.due("an empty PLAN: how many", x.ends(0), 0);
        Due.due("an empty BOOK", x.looked(), -5);
        for (int n = 1; n <= 8; n++) Due.due("plan(0, ..)", x.plan(0, n == 1 ? MIN : n == 2 ? MAX : -n), n);
        Due.due("eight HOURS: how many", x.ends(0), 1);
        Due.due("the ninth", x.plan(0, 0), -4);
        for (int other : new int[] {MIN, -1, 0, MAX}) {
            Due.due("plan(-1, " + other + ")", x.plan(-1, other), 0);
            Due.due("count(3)", x.count(3), 0);
            Due.due("plan(3, 0)", x.plan(3, 0), 1);
            Due.due("book(-1, " + other + ")", x.book(-1, other), 0);
            Due.due("count(4)", x.count(4), 0);
            Due.due("book(0, 0)", x.book(0, 0), 1);
        }
        Due.due("no GOAL: how many", x.ends(0), 0);
        Due.due("book(0, 65535)", x.book(0, ALL), 2);
        Due.due("looked(): row 1 is otherwise", x.looked(), 1);
        x.chart(0, ALL);
        Due.due("looked(): row 0 is otherwise", x.looked(), 0);
        x.book(-1, 0);
        for (int n = 1; n <= 8; n++) x.book(0, n < 8 ? ALL : ALL - 1);
        Due.due("looked(): the last", x.looked(), 7);
        x.chart(0, ALL - 1);
        Due.due("looked(): the first", x.looked(), 0);
        // A row on which one and the other are the same is no refusal, and draws nothing new.
        RefusalMaps y = one(0, 0, 0);
        y.traveller(0, 0, 0);
        y.goal(1, 1);
        Due.due("plan(2, 11)", y.plan(2, 11), 1);
        Due.due("plan(2, 0)", y.plan(2, 0), 2);
        y.plan(0, 0);
        Due.due("it goes as if nothing were lent", y.ends(0), 1);
    }

    /** "if the row ends ahead of that": rows of 0 .. 17, all as the GATES are. */
    private static void promise25() {
        for (int n = 0; n <= 17; n++) {
            RefusalMaps x = new RefusalMaps();
            x.tape(5, 0, n);
            for (int i = 0; i < n; i++) x.item(5, i, 3);
            for (int i = 0; i <= n + 1; i++) Due.due("judge(5, " + i + ") by " + n, x.judge(5, i), n - i >= 16 ? -5 : 100 + Math.max(0, n - i));
            for (int i : new int[] {-1, MIN, MAX, MAX - 14, MAX - 15, MAX - 16}) Due.due("judge(5, " + i + ") by " + n, x.judge(5, i), 100);
            for (int c = 0; c < 16; c++) {
                x.gate(c, 4);
                Due.due("cell " + c + " is otherwise, by " + n, x.judge(5, 0), c < n ? c : 100 + n);
                x.gate(c, 3);
            }
        }
        // Behind the row's end there is nothing, though there are items of a longer row that was there.
        RefusalMaps x = new RefusalMaps();
        x.tape(0, 0, 60);
        Due.due("60 of 0", x.judge(0, 44), 0);
        for (int c = 0; c < 16; c++) x.gate(c, 0);
        Due.due("the last 16 of 60", x.judge(0, 44), -5);
        Due.due("the last 15 of 60", x.judge(0, 45), 115);
        x.gate(15, 9);
        Due.due("the last 15 of 60, cell 15 otherwise", x.judge(0, 45), 115);
        x.item(0, 59, 256 + 9);
        Due.due("a byte of 9", x.judge(0, 44), -5);
        x.item(0, 59, -9);
        Due.due("a byte below 0", x.judge(0, 44), 15);
    }

    /** "All is as THE IMAGE": travellers come once more behind an undo, nations do not; "which NATION holds". */
    private static void promises26And27() {
        RefusalMaps x = new RefusalMaps();
        for (int i = 0; i < 5; i++) x.traveller(0, i, i);
        Due.nation(x, "open 1 p=0");
        Due.due("image()", x.image(), 5);
        for (int turn = 0; turn < 3; turn++) {
            Due.due("the sixth", x.traveller(1, 9, 9), 5);
            Due.due("the seventh", x.traveller(1, 9, 9), -4);
            Due.due("another nation", Due.nation(x, "open 2 p=0;fade 9"), turn + 1);
            Due.due("it holds", x.welcome(0, 0), 5);
            Due.due("undo()", x.undo(), 5);
            Due.due("the sixth is there no more", x.of(5, 0), -1);
            Due.due("the first nation holds", x.welcome(0, 0), 4);
            Due.due("FADE", x.told(1), 0);
            Due.due("a fault", x.nation(), -10);
            Due.due("the first nation holds still", x.welcome(0, 0), 4);
        }
        Due.nation(x, "fade 1");
        Due.nation(x, "fade 1");
        x.undo();
        Due.due("there are six nations, though the first holds", Due.nation(x, "fade 1"), -4);
        x.pass(40);
        x.gate(0, 9);
        Due.due("a later image takes the place of the one ahead", x.image(), 5);
        x.gate(0, 1);
        x.pass(1);
        Due.due("undo()", x.undo(), 5);
        Due.due("HOUR", x.told(0), 40);
        Due.due("GATE", x.told(10), 9);
    }

    /** "with x (wrapping)": in each body that could. */
    private static void promise28() {
        int half = 1 << 30;
        // kind, v, what of whom (0 or 1), act, x, answer
        int[][] acts = {
            {0, 0, 1, 0, MAX, MIN}, {0, 1, 0, 1, MIN, MAX}, {0, 9, 1, 1, MIN, MAX - 7}, {0, 0, 0, 2, half, MIN}, {0, 0, 0, 2, MIN, 0},
            {1, 0, 0, 1, MIN, MIN + 6}, {1, 1, 0, 1, MIN, MAX - 6}, {1, 0, 0, 2, half, MIN + 12},
            {2, 0, 0, 0, half, -half}, {2, 0, 1, 0, MAX, MAX - 1}, {2, 0, 0, 0, MIN, MIN}, {2, 1, 0, 1, MIN, MAX},
            {3, 0, 1, 2, half - 2, MIN}, {3, 0, 0, 2, MIN, 1}, {3, 9, 0, 2, 0, -26},
            {4, 0, 0, 0, MIN, MIN}, {4, 0, 1, 0, MAX, MIN}, {4, 0, 0, 1, MAX, MIN + 6}, {4, 0, 0, 0, MAX, MIN + 1},
            {5, 0, 1, 2, MIN, -4}, {5, 0, 0, 0, half, -half},
            {6, 0, 0, 1, MAX, MIN + 1}, {6, 9, 0, 0, MIN, MIN + 9}, {6, 0, 1, 0, MAX, MIN},
        };
        for (int[] a : acts) {
            RefusalMaps x = one(a[0], a[1], 0);
            x.traveller(a[0], a[1], 0);
            Due.due("KIND " + a[0] + ", v " + a[1] + ": act(" + a[2] + ", " + a[3] + ", " + a[4] + ")", x.act(a[2], a[3], a[4]), a[5]);
        }
    }

    /** "A TAPE becomes a row of n (0 .. 60)"; "its lowest bits, as many as an item has; booleans: whether v is not 0". */
    private static void promises32To34() {
        long[][] kept = {
            {0, 127, 127}, {0, 128, -128}, {0, -128, -128}, {0, -129, 127}, {0, 255, -1}, {0, 256, 0}, {0, Long.MIN_VALUE, 0}, {0, Long.MAX_VALUE, -1},
            {1, 32767, 32767}, {1, 32768, -32768}, {1, -32768, -32768}, {1, -32769, 32767}, {1, 65535, -1}, {1, 65536, 0}, {1, Long.MAX_VALUE, -1},
            {2, MAX, MAX}, {2, MAX + 1L, MIN}, {2, MIN, MIN}, {2, MIN - 1L, MAX}, {2, (1L << 32) - 1, -1}, {2, 1L << 32, 0}, {2, Long.MIN_VALUE, 0},
            {3, Long.MAX_VALUE, Long.MAX_VALUE}, {3, Long.MIN_VALUE, Long.MIN_VALUE}, {3, -1, -1},
            {4, 0, 0}, {4, 1, 1}, {4, 2, 1}, {4, -1, 1}, {4, 256, 1}, {4, 1L << 32, 1}, {4, Long.MIN_VALUE, 1},
        };
        for (long[] k : kept) {
            RefusalMaps x = new RefusalMaps();
            int sort = (int) k[0];
            for (int n : new int[] {1, 60}) {
                Due.due("tape(0, " + sort + ", " + n + ")", x.tape(0, sort, n), 1);
                Due.due("item(0, " + (n - 1) + ", " + k[1] + ") of sort " + sort, x.item(0, n - 1, k[1]), 1);
                Due.due("read(0, " + (n - 1) + ")", x.read(0, n - 1), k[2]);
                Due.due("item(0, " + n + ", ..)", x.item(0, n, k[1]), -13);
                Due.due("read(0, " + n + ")", x.read(0, n), Long.MIN_VALUE);
            }
            Due.due("tape(0, " + sort + ", 0)", x.tape(0, sort, 0), 1);
            Due.due("item(0, 0, ..)", x.item(0, 0, k[1]), -13);
            Due.due("it is a row all the same", x.shift(0, 0, 0, 0, 0), 0);
        }
        RefusalMaps x = new RefusalMaps();
        for (int n : new int[] {MIN, -1, 0, 60, 61, MAX}) {
            x.tape(1, 0, 3);
            Due.due("tape(1, -1, " + n + ")", x.tape(1, -1, n), 1);
            Due.due("nothing is there", x.item(1, 0, 1), -11);
            Due.due("tape(1, -1, " + n + "), nothing being there", x.tape(1, -1, n), 1);
        }
        for (int tape = 0; tape < 6; tape++) {
            x.tape(tape, 3, 2);
            x.item(tape, 1, tape + 100);
        }
        for (int tape = 0; tape < 6; tape++) Due.due("each tape has its own", x.read(tape, 1), tape + 100);
    }

    /** "as they all were before": to the same tape, up and down, by all sorts, from end to end. */
    private static void promise35() {
        for (int sort = 0; sort < 5; sort++) {
            for (int[] by : new int[][] {{0, 1, 59}, {1, 0, 59}, {0, 0, 60}, {0, 30, 30}, {30, 0, 30}, {5, 7, 40}, {60, 0, 0}, {0, 60, 0}, {60, 60, 0}, {59, 0, 1}, {0, 59, 1}}) {
                RefusalMaps x = new RefusalMaps();
                x.tape(0, sort, 60);
                x.tape(1, sort, 60);
                for (int i = 0; i < 60; i++) x.item(0, i, item(sort, i));
                Due.due("shift to another", x.shift(0, by[0], 1, by[1], by[2]), by[2]);
                for (int i = 0; i < 60; i++) {
                    boolean shifted = i >= by[1] && i < by[1] + by[2];
                    Due.due("the other's item " + i, x.read(1, i), shifted ? item(sort, i - by[1] + by[0]) : 0);
                }
                Due.due("shift to the same", x.shift(0, by[0], 0, by[1], by[2]), by[2]);
                for (int i = 0; i < 60; i++) {
                    boolean shifted = i >= by[1] && i < by[1] + by[2];
                    Due.due("its own item " + i, x.read(0, i), item(sort, shifted ? i - by[1] + by[0] : i));
                }
            }
        }
    }

    private static int item(int sort, int i) {
        return sort == 4 ? i * i / 7 % 2 : i - 30;
    }

    public static void main(String[] args) {
        promise1();
        promise2();
        promise4();
        greatestAndLeast();
        refusedOrNot();
        promises5To9();
        faults();
        digits();
        promises10And11();
        withinFour();
        hoursAndFading();
        promise12();
        promises13And14();
        whoDoesNotTry();
        promises15And16();
        seenFromNow();
        promises17And18();
        promise20();
        promises21To24();
        promise25();
        promises26And27();
        promise28();
        promises32To34();
        promise35();
        Due.end();
    }
}
