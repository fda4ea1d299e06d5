/** Promises 13 to 16, and what of() tells of hours to come: THERE, TRUE, LENT, KEY. */
public final class HoursTest {
    /*
     * The cells:   0  1  2  3
     *              4  5  6  7
     *              8  9 10 11
     *             12 13 14 15
     */
    private static void passing() {
        RefusalMaps x = new RefusalMaps();
        Due.due("pass(-1)", x.pass(-1), -2);
        Due.due("pass(41)", x.pass(41), -2);
        Due.due("pass(0)", x.pass(0), 0);
        Due.due("pass(40)", x.pass(40), 40);
        Due.due("told(0)", x.told(0), 40);
        for (int i = 2; i < 250; i++) x.pass(40);
        Due.due("pass(40): it would be 10000", x.pass(40), -3);
        Due.due("pass(41): BAD comes first", x.pass(41), -2);
        Due.due("told(0)", x.told(0), 9960);
        Due.due("pass(39)", x.pass(39), 9999);
        Due.due("pass(1)", x.pass(1), -3);
        Due.due("pass(0)", x.pass(0), 9999);
    }

    /** A TRAVELLER from 0 to 2, with the gate at 1 shut: refused at 1, it goes by 4, 5 and 6. */
    private static void refusing() {
        RefusalMaps x = new RefusalMaps();
        x.traveller(0, 0, 0);
        x.goal(0, 2);
        x.gate(1, 0);
        Due.due("way by no chart", x.way(0, 2, -1), 2);
        Due.due("straight", x.straight(0, 2), 4);
        Due.due("THERE", x.of(0, 6), 5);
        Due.due("TRUE", x.of(0, 7), 2);
        Due.due("pass(1)", x.pass(1), 1);
        Due.due("AT: refused", x.of(0, 2), 0);
        Due.due("CHART", x.of(0, 4), 2);
        Due.due("NOES", x.of(0, 5), 1);
        Due.due("way by the chart", x.way(0, 2, -1), 4);
        int[] cells = {4, 5, 6, 2};
        for (int k = 0; k < 4; k++) Due.due("way(0, 2, k)", x.way(0, 2, k), cells[k]);
        for (int k = 0; k < 4; k++) {
            Due.due("pass(1)", x.pass(1), k + 2);
            Due.due("AT", x.of(0, 2), cells[k]);
        }
        Due.due("NOES", x.of(0, 5), 1);
        Due.due("it stays", x.pass(9), 14);
        Due.due("AT", x.of(0, 2), 2);
    }

    private static void stuck() {
        RefusalMaps x = new RefusalMaps();
        x.traveller(0, 0, 0);
        x.pass(2);
        Due.due("no goal: it stays", x.of(0, 2), 0);
        Due.due("no goal: THERE", x.of(0, 6), -5);
        Due.due("no goal: LENT", x.of(0, 8), -5);
        Due.due("no goal: KEY", x.of(0, 9), -5);
        x.goal(0, 15);
        x.chart(0, 1 << 1 | 1 << 4);
        x.pass(2);
        Due.due("no way: it stays", x.of(0, 2), 0);
        Due.due("no way: NOES", x.of(0, 5), 0);
        Due.due("no way: THERE", x.of(0, 6), -5);
        Due.due("no way: LENT", x.of(0, 8), -5);
        Due.due("no way: KEY", x.of(0, 9), -5);
        x.chart(0, 1 << 15);
        Due.due("the goal is drawn: way", x.way(0, 15, -1), -5);
        Due.due("the goal is drawn: THERE", x.of(0, 6), -5);
        x.chart(0, 1);
        Due.due("where it is, is drawn", x.way(0, 15, -1), 6);
        x.goal(0, 0);
        Due.due("at its goal, though that is drawn: THERE", x.of(0, 6), 0);
        Due.due("at its goal: LENT", x.of(0, 8), 0);
        Due.due("at its goal: KEY", x.of(0, 9), -5);
        Due.due("at its goal: way", x.way(0, 0, -1), 0);
        Due.due("at its goal: way, 0", x.way(0, 0, 0), -5);
    }

    private static void ways() {
        RefusalMaps x = new RefusalMaps();
        x.traveller(0, 0, 12);
        int[] first = {8, 4, 0, 1, 2, 3};
        Due.due("way", x.way(0, 3, -1), 6);
        for (int k = 0; k < 6; k++) Due.due("way, k", x.way(0, 3, k), first[k]);
        for (int k = 6; k < 15; k++) Due.due("way, beyond", x.way(0, 3, k), -5);
        Due.due("way, 15", x.way(0, 3, 15), -1);
        Due.due("way, -2", x.way(0, 3, -2), -1);
        Due.due("way to none", x.way(0, 16, -1), -1);
        Due.due("way to -1", x.way(0, -1, -1), -1);
        Due.due("way of none", x.way(1, 0, -1), -1);
        // A long one: 12 to 0 in windings, all between drawn.
        x.put(0, 0);
        x.chart(0, 1 << 4 | 1 << 5 | 1 << 6 | 1 << 11 | 1 << 10 | 1 << 9);
        Due.due("3 and 7 stay, 11 does not", x.way(0, 12, -1), -5);
        x.chart(0, 1 << 4 | 1 << 5 | 1 << 6 | 1 << 13);
        int[] windings = {1, 2, 3, 7, 11, 10, 9, 8, 12};
        Due.due("windings", x.way(0, 12, -1), 9);
        for (int k = 0; k < 9; k++) Due.due("windings, k", x.way(0, 12, k), windings[k]);
        Due.due("no way over the edges: 3 to 4", x.put(0, 3), 0);
        x.chart(0, 1 << 2 | 1 << 7);
        Due.due("3 is shut in", x.way(0, 4, -1), -5);
        Due.due("no cell of it", x.way(0, 4, 0), -5);
        x.put(0, 4);
        x.chart(0, 1 << 0 | 1 << 5 | 1 << 8);
        Due.due("4 is shut in", x.way(0, 3, -1), -5);
        Due.due("straight does not mind the chart", x.straight(0, 3), 4);
        Due.due("straight of none", x.straight(1, 0), -1);
        Due.due("straight to none", x.straight(0, 16), -1);
        Due.due("straight to -1", x.straight(0, -1), -1);
        Due.due("straight to where it is", x.straight(0, 4), 0);
        x.gate(3, 0);
        Due.due("straight to where it is refused", x.straight(0, 3), -5);
        x.gate(4, 0);
        Due.due("straight from where it is refused", x.straight(0, 15), 5);
    }

    /** One behind the other: a SOLDIER is refused where another one has gone just before. */
    private static void inTurn() {
        RefusalMaps x = new RefusalMaps();
        x.traveller(0, 0, 0);
        x.traveller(4, 4, 2);
        x.goal(0, 1);
        x.goal(1, 0);
        Due.due("on(1, 10)", x.on(1, 10), 1);
        Due.due("on(1, 11): refused, since the other is there by now", x.on(1, 11), 2);
        Due.due("on(1, 21)", x.on(1, 21), 2);
        Due.due("on(1, 31)", x.on(1, 31), 1);
        RefusalMaps y = new RefusalMaps();
        y.traveller(4, 4, 2);
        y.traveller(0, 0, 1);
        y.goal(0, 0);
        y.goal(1, 5);
        Due.due("the SOLDIER is first: the other is still there", y.on(1, 10), 2);
        y.put(0, 3);
        y.put(1, 5);
        y.goal(1, 1);
        Due.due("behind an hour it stands beside the other", y.on(1, 10), 2);
        Due.due("in the second hour it is refused at 1, where the other has come", y.on(2, 10), 2);
        Due.due("THERE of the SOLDIER", y.of(0, 6), 6);
        Due.due("KEY of the SOLDIER", y.of(0, 9), 1);
        y.see(0, 2, 2);
        Due.due("FROM of the SOLDIER: by 3 or 6 to 2 and refused, or to 2 by then", y.of(0, 10), 1 << 3 | 1 << 6 | 1 << 7 | 1 << 10);
        Due.due("CAN of the SOLDIER: refused by v 0 .. 5", y.can(0, 0), 6);
        RefusalMaps z = new RefusalMaps();
        z.traveller(0, 0, 1);
        z.traveller(4, 4, 2);
        z.goal(0, 5);
        z.goal(1, 0);
        Due.due("the SOLDIER is second: the other has gone", z.on(1, 11), 1);
        Due.due("THERE of a SOLDIER", z.of(1, 6), 2);
        Due.due("KEY of a SOLDIER", z.of(1, 9), -5);
        // The gate of 1 would let it by, though the other stays there: 9 and 4, less 8.
        z.put(0, 1);
        z.goal(0, -1);
        z.gate(4, 0);
        z.gate(5, 0);
        Due.due("THERE of a SOLDIER, the other in the way", z.of(1, 6), 5);
        Due.due("KEY of a SOLDIER, the other in the way", z.of(1, 9), 1);
    }

    /** The hour is that ahead of its end: fade at 0, 3, 6; the charts of all, the least cell of each. */
    private static void fading() {
        RefusalMaps x = new RefusalMaps();
        x.traveller(0, 0, 0);
        x.traveller(0, 0, 15);
        x.chart(0, 0b1111000000000000);
        x.chart(1, 0b0101);
        Due.nation(x, "fade 3");
        x.pass(1);
        Due.due("hour 0: CHART", x.of(0, 4), 0b1110000000000000);
        Due.due("hour 0: CHART of the other", x.of(1, 4), 0b0100);
        x.pass(2);
        Due.due("hours 1, 2: CHART", x.of(0, 4), 0b1110000000000000);
        x.pass(1);
        Due.due("hour 3: CHART", x.of(0, 4), 0b1100000000000000);
        Due.due("hour 3: CHART of the other", x.of(1, 4), 0);
        x.pass(3);
        Due.due("hour 6: CHART", x.of(0, 4), 0b1000000000000000);
        Due.due("hour 6: CHART of the other", x.of(1, 4), 0);
        Due.due("on(3, 20)", x.on(3, 20), 0);
        // What is drawn in an hour can fade in the same.
        RefusalMaps y = new RefusalMaps();
        y.traveller(0, 0, 0);
        y.goal(0, 1);
        y.gate(1, 0);
        Due.nation(y, "fade 1");
        y.pass(5);
        Due.due("drawn and faded: CHART", y.of(0, 4), 0);
        Due.due("NOES", y.of(0, 5), 5);
    }

    /** Refused each hour, one has 9999 noes at hour 9999; what is asked goes beyond. */
    private static void manyNoes() {
        RefusalMaps x = new RefusalMaps();
        x.traveller(0, 0, 0);
        x.goal(0, 1);
        x.gate(1, 0);
        Due.nation(x, "fade 1;open 3 h=9");
        for (int i = 0; i < 249; i++) x.pass(40);
        x.pass(39);
        Due.due("hour 9: it was let in", x.of(0, 2), 1);
        RefusalMaps y = new RefusalMaps();
        y.traveller(0, 0, 0);
        y.goal(0, 1);
        y.gate(1, 0);
        Due.nation(y, "fade 1");
        for (int i = 0; i < 249; i++) y.pass(40);
        y.pass(39);
        Due.due("NOES", y.of(0, 5), 9999);
        Due.due("told(3)", y.told(3), 9999);
        Due.due("on(40, 30)", y.on(40, 30), 10039);
        Due.due("plan(0, 0)", y.plan(0, 0), 1);
        Due.due("ends(1)", y.ends(1), 10000);
        Due.due("NOES", y.of(0, 5), 9999);
        // Behind hour 9999 comes 10000: h is 0 then.
        Due.nation(y, "fade 1;open 9 h=0");
        Due.due("THERE", y.of(0, 6), 2);
        Due.due("on(2, 10)", y.on(2, 10), 1);
        Due.due("on(1, 10)", y.on(1, 10), 0);
    }

    private static void asking() {
        RefusalMaps x = new RefusalMaps();
        Due.due("on(0, 10) without any", x.on(0, 10), -1);
        x.traveller(0, 0, 0);
        x.traveller(0, 0, 3);
        x.goal(0, 3);
        x.gate(1, 0);
        Due.due("on(0, 10)", x.on(0, 10), 0);
        Due.due("on(0, 11)", x.on(0, 11), 3);
        Due.due("on(1, 20)", x.on(1, 20), 2);
        Due.due("on(1, 30)", x.on(1, 30), 1);
        Due.due("on(2, 10)", x.on(2, 10), 4);
        Due.due("on(40, 10)", x.on(40, 10), 3);
        Due.due("on(41, 10)", x.on(41, 10), -2);
        Due.due("on(-1, 10)", x.on(-1, 10), -2);
        for (int what : new int[] {-1, 0, 9, 12, 16, 19, 22, 32, 36, 40, 110, -10, Integer.MIN_VALUE, Integer.MAX_VALUE}) {
            Due.due("on(0, " + what + ")", x.on(0, what), -1);
        }
        Due.due("on(41, 12): NONE comes first", x.on(41, 12), -1);
        Due.due("it changed nothing: AT", x.of(0, 2), 0);
        Due.due("it changed nothing: CHART", x.of(0, 4), 0);
        Due.due("it changed nothing: NOES", x.of(0, 5), 0);
        Due.due("it changed nothing: HOUR", x.told(0), 0);
    }

    private static void thereByForty() {
        RefusalMaps x = new RefusalMaps();
        x.traveller(0, 0, 0);
        x.goal(0, 1);
        x.gate(1, 0);
        // It is refused, and goes on trying, in the hours 10 .. 18, and let in in hour 19.
        Due.nation(x, "fade 1;open 1 h=9");
        x.pass(10);
        Due.due("let in in hour 9", x.put(0, 0), 1);
        Due.due("THERE by h 9", x.of(0, 6), 10);
        Due.nation(x, "fade 1");
        Due.due("THERE never", x.of(0, 6), -5);
        Due.due("KEY: the gate itself", x.of(0, 9), 1);
        // All that shuts it in is drawn no more only when the hour comes.
        RefusalMaps y = new RefusalMaps();
        y.traveller(0, 0, 0);
        y.goal(0, 1);
        y.chart(0, 0b1111111111110);
        Due.nation(y, "fade 39");
        y.pass(1);
        Due.due("1 faded: THERE", y.of(0, 6), 1);
        y.chart(0, 0b11);
        Due.due("hour 39 takes cell 0 alone: THERE", y.of(0, 6), -5);
        y.chart(0, 0b10);
        Due.due("hour 39 takes cell 1: THERE is 40", y.of(0, 6), 40);
        // By a gate one is there behind 40 hours and not before, or behind 41, which is too late.
        y.gate(1, 0);
        Due.due("the gate shut: THERE", y.of(0, 6), -5);
        Due.due("KEY by 40 hours", y.of(0, 9), 1);
        y.put(0, 4);
        y.chart(0, 0b100100001);
        y.gate(1, 3);
        Due.due("first 0, then 1", y.of(0, 6), -5);
        y.put(0, 0);
        y.chart(0, 0b10);
        Due.nation(y, "fade 40");
        Due.due("hour 40 takes cell 1: THERE would be 41", y.of(0, 6), -5);
        Due.due("KEY: no gate helps", y.of(0, 9), -5);
    }

    /** Gates 1 and 5 shut: THERE is 5 by 4, 8, .. or, were gate 1 open, 2. */
    private static void keys() {
        RefusalMaps x = new RefusalMaps();
        x.traveller(0, 0, 0);
        x.goal(0, 3);
        x.gate(1, 0);
        x.gate(5, 0);
        Due.due("THERE", x.of(0, 6), 9);
        Due.due("KEY", x.of(0, 9), 1);
        x.gate(1, 1);
        Due.due("THERE", x.of(0, 6), 3);
        Due.due("KEY: none is less", x.of(0, 9), -5);
        // Two are as good: the first.
        RefusalMaps y = new RefusalMaps();
        y.traveller(0, 0, 0);
        y.goal(0, 5);
        y.gate(1, 0);
        y.gate(4, 0);
        Due.due("THERE", y.of(0, 6), -5);
        Due.due("KEY: 1 at once", y.of(0, 9), 1);
        y.goal(0, 8);
        Due.due("KEY: only 4 helps", y.of(0, 9), 4);
        // The goal itself is shut.
        RefusalMaps z = new RefusalMaps();
        z.traveller(0, 0, 0);
        z.traveller(0, 0, 0);
        z.goal(1, 15);
        z.gate(15, 0);
        Due.due("THERE", z.of(1, 6), -5);
        Due.due("KEY", z.of(1, 9), 15);
        Due.due("it changed nothing", z.told(25), 0);
        // 0 is a cell as any.
        z.put(1, 5);
        z.goal(1, 0);
        z.gate(0, 0);
        Due.due("KEY 0", z.of(1, 9), 0);
        Due.due("TRUE with cell 0", z.of(1, 7), 1 | 1 << 15);
        z.gate(0, 3);
        z.put(1, 0);
        z.goal(1, 15);
        // It opens to 9: 8 would not do, nor would 10.
        Due.nation(z, "shut 8 c=15;open 1 c=4");
        Due.due("KEY: a gate of 9 is enough", z.of(1, 9), 15);
        Due.nation(z, "shut 9 c=15;open 1 c=4");
        Due.due("KEY: a gate of 9 is not enough", z.of(1, 9), -5);
        // A gate of 9 can shut, too, by a text.
        Due.nation(z, "shut 20 g=9;open 1 c=15");
        Due.due("KEY by the text", z.of(1, 9), -5);
        Due.due("THERE by the text", z.of(1, 6), 6);
    }

    /** Traveller 0 from 0 to 3 over 1 and 2, both shut; others know the one, the other, or both. */
    private static void lending() {
        RefusalMaps x = new RefusalMaps();
        for (int i = 0; i < 6; i++) x.traveller(0, 0, 15);
        x.put(0, 0);
        x.goal(0, 3);
        x.gate(1, 0);
        x.gate(6, 0);
        Due.due("LENT: nobody knows of it", x.of(0, 8), -5);
        x.chart(0, 1 << 1);
        Due.due("its own way: 4, 5, then 6", x.way(0, 3, 2), 6);
        Due.due("LENT: nobody knows of 6", x.of(0, 8), -5);
        x.chart(4, 1 << 6);
        Due.due("LENT by 4", x.of(0, 8), 1 << 4);
        x.chart(2, 1 << 6 | 1 << 9);
        Due.due("LENT by 2, too, by a longer way: less as bits", x.of(0, 8), 1 << 2);
        x.chart(2, 0);
        x.chart(0, 0);
        Due.due("LENT: who knows of 1", x.of(0, 8), -5);
        x.chart(5, 1 << 1);
        Due.due("LENT by 4 and 5", x.of(0, 8), 1 << 4 | 1 << 5);
        x.chart(3, 1 << 1);
        Due.due("LENT by 3 and 4: less as bits than by 4 and 5", x.of(0, 8), 1 << 3 | 1 << 4);
        x.chart(5, 1 << 1 | 1 << 6);
        Due.due("LENT by 5 alone: the fewest", x.of(0, 8), 1 << 5);
        x.chart(0, 1 << 1 | 1 << 6);
        Due.due("LENT: none needed", x.of(0, 8), 0);
        x.chart(0, 1 << 7 | 1 << 2);
        Due.due("LENT: no way by its own", x.of(0, 8), -5);
        // By all five others; by what two of them both have drawn.
        RefusalMaps z = new RefusalMaps();
        for (int i = 0; i < 6; i++) z.traveller(0, 0, 0);
        // From 2 to 4 by 1, 0; by 1, 5; by 6, 10; by 3, 7, 11 ..; by 6, 7, 11, 15, 14, 13, 9: at last by 12.
        int[] shut = {0, 5, 10, 3, 9};
        for (int i = 0; i < 5; i++) {
            z.gate(shut[i], 0);
            z.chart(i, 1 << shut[i]);
        }
        z.put(5, 2);
        z.goal(5, 4);
        Due.due("LENT by all five", z.of(5, 8), 31);
        z.chart(0, 1 | 1 << 9);
        z.chart(1, 1 << 5 | 1 << 9);
        Due.due("LENT by 0 .. 3: 9 is drawn on two", z.of(5, 8), 15);
        // Its own number is never of the set.
        RefusalMaps y = new RefusalMaps();
        y.traveller(0, 0, 0);
        y.traveller(0, 0, 0);
        y.goal(1, 3);
        y.goal(0, 3);
        y.gate(1, 0);
        y.chart(0, 1 << 1);
        Due.due("LENT of 0", y.of(0, 8), 0);
        Due.due("LENT of 1", y.of(1, 8), 1);
        y.gate(3, 0);
        Due.due("LENT: the goal is shut", y.of(1, 8), -5);
        y.gate(3, 1);
        y.gate(0, 0);
        Due.due("LENT: where it is, is shut", y.of(1, 8), 1);
        y.put(1, 1);
        y.goal(1, 4);
        y.chart(1, 1 << 5);
        y.gate(0, 3);
        Due.due("LENT: its own way goes by 0", y.of(1, 8), 0);
        y.gate(0, 0);
        Due.due("LENT: 0 is shut", y.of(1, 8), -5);
    }

    /** As all is now: the chart lent does not make an OLD one's welcome more. */
    private static void lendingToOld() {
        RefusalMaps x = new RefusalMaps();
        x.traveller(5, 0, 0);
        x.traveller(0, 0, 15);
        Due.nation(x, "shut 10 c=1|c=2");
        x.goal(0, 2);
        Due.due("welcome at 2: -7 by 2, and 1", x.welcome(0, 2), -2);
        x.chart(1, 0b1111111100000010 & ~(1 << 10));
        x.chart(0, 1 << 12 | 1 << 13 | 1 << 14 | 1 << 15);
        Due.due("welcome at 2 by 4 drawn", x.welcome(0, 2), 0);
        Due.due("LENT", x.of(0, 8), -5);
        x.chart(0, 1 << 11 | 1 << 10 | 1 << 12 | 1 << 13 | 1 << 14 | 1 << 15);
        Due.due("welcome at 2 by 6 drawn", x.welcome(0, 2), 1);
        Due.due("LENT: 1 and 2 are open to it now", x.of(0, 8), 0);
    }

    public static void main(String[] args) {
        passing();
        refusing();
        stuck();
        ways();
        inTurn();
        fading();
        manyNoes();
        asking();
        thereByForty();
        keys();
        lending();
        lendingToOld();
        Due.end();
    }
}
