/** Promises 17 to 20, and FROM: what is seen, where one can have begun, how firm one is, odds, means. */
public final class SeenTest {
    private static void seeing() {
        RefusalMaps x = new RefusalMaps();
        Due.due("see(-1, ..) without any", x.see(-1, 0, 0), 0);
        Due.due("see(0, ..) without any", x.see(0, 0, 0), -1);
        x.traveller(0, 0, 5);
        Due.due("see(1, 0, 0)", x.see(1, 0, 0), -1);
        Due.due("see(-2, 0, 0)", x.see(-2, 0, 0), -1);
        Due.due("see(0, 0, 16)", x.see(0, 0, 16), -1);
        Due.due("see(0, 0, -1)", x.see(0, 0, -1), -1);
        Due.due("see(0, -1, 0)", x.see(0, -1, 0), -2);
        Due.due("see(0, 13, 0)", x.see(0, 13, 0), -2);
        Due.due("see(0, 13, 16): NONE comes first", x.see(0, 13, 16), -1);
        for (int n = 1; n <= 5; n++) Due.due("see(0, 12, 5)", x.see(0, 12, 5), n);
        Due.due("see(0, 12, 5): the sixth", x.see(0, 12, 5), -4);
        Due.due("see(0, 13, 5): BAD comes first", x.see(0, 13, 5), -2);
        Due.due("see(0, 0, 16): NONE comes first", x.see(0, 0, 16), -1);
        Due.due("count(2)", x.count(2), 5);
        Due.due("see(-1, 99, -99)", x.see(-1, 99, -99), 0);
        Due.due("count(2)", x.count(2), 0);
        Due.due("see(0, 0, 0)", x.see(0, 0, 0), 1);
    }

    /** By open gates one goes from anywhere to 0: by hours 0, 1, 2 it is where its way leads. */
    private static void from() {
        RefusalMaps x = new RefusalMaps();
        x.traveller(0, 0, 15);
        x.traveller(0, 0, 7);
        x.goal(0, 0);
        Due.due("nothing is seen: FROM", x.of(0, 10), 65535);
        Due.due("nothing is seen: can", x.can(0, 0), 10);
        Due.due("nothing is seen: the least", x.can(0, 1), 0);
        // The shortest way, first as a row, goes up as far as it can: from 8 and 5 to 4, 1; not from 5 to 4.
        x.see(0, 1, 4);
        Due.due("at 4 behind an hour: FROM", x.of(0, 10), 1 << 8);
        x.see(-1, 0, 0);
        x.see(0, 1, 1);
        Due.due("at 1 behind an hour: FROM", x.of(0, 10), 1 << 2 | 1 << 5);
        x.see(0, 2, 0);
        Due.due("and at 0 behind two", x.of(0, 10), 1 << 2 | 1 << 5);
        x.see(0, 0, 5);
        Due.due("and at 5 now", x.of(0, 10), 1 << 5);
        x.see(1, 12, 7);
        Due.due("the other at 7 always", x.of(0, 10), 1 << 5);
        Due.due("FROM of the other: what is seen of this is not so", x.of(1, 10), 0);
        Due.due("CAN", x.can(0, 0), 0);
        Due.due("CAN, the least", x.can(0, 1), -5);
        x.put(0, 5);
        Due.due("FROM of the other: it stays at 7", x.of(1, 10), 1 << 7);
        Due.due("CAN: v does not matter", x.can(0, 0), 10);
        Due.due("CAN, the least", x.can(0, 1), 0);
        x.see(-1, 0, 0);
        x.see(0, 12, 0);
        Due.due("at 0 behind 12: FROM anywhere", x.of(0, 10), 65535);
        x.see(0, 6, 0);
        Due.due("at 0 behind 6: FROM anywhere", x.of(0, 10), 65535);
        x.see(0, 5, 0);
        Due.due("at 0 behind 5: not from 15", x.of(0, 10), 65535 & ~(1 << 15));
        Due.due("of none", x.of(2, 10), -1);
        Due.due("it changed nothing", x.of(0, 2), 5);
        // What is seen is told from now on, whenever now is.
        x.see(-1, 0, 0);
        x.see(0, 1, 1);
        x.put(0, 2);
        x.pass(3);
        Due.due("hours went: FROM", x.of(0, 10), 1 << 2 | 1 << 5);
    }

    /** Where another stands a SOLDIER is refused: FROM looks at all, one behind the other. */
    private static void fromAmongOthers() {
        RefusalMaps x = new RefusalMaps();
        x.traveller(4, 0, 0);
        x.traveller(0, 0, 1);
        x.goal(0, 2);
        x.see(0, 1, 0);
        Due.due("the SOLDIER stays at 0: FROM of the other", x.of(1, 10), 1 << 1);
        x.see(-1, 0, 0);
        x.see(0, 1, 1);
        Due.due("the SOLDIER comes to 1: FROM of the other", x.of(1, 10), 65535 & ~(1 << 1));
    }

    private static void can() {
        RefusalMaps x = new RefusalMaps();
        x.traveller(1, 0, 0);
        x.goal(0, 2);
        Due.nation(x, "shut 8 c=1");
        // At 1 a BEAUTY is welcome by 3 - 8 + v: v has to be 6 or more.
        x.see(0, 1, 1);
        Due.due("can(0, 0)", x.can(0, 0), 4);
        Due.due("can(0, 1)", x.can(0, 1), 6);
        x.see(-1, 0, 0);
        x.see(0, 1, 0);
        Due.due("it was refused: can(0, 0)", x.can(0, 0), 6);
        Due.due("it was refused: can(0, 1)", x.can(0, 1), 0);
        x.see(0, 2, 1);
        Due.due("and at 1 then: can(0, 0)", x.can(0, 0), 0);
        Due.due("and at 1 then: can(0, 1)", x.can(0, 1), -5);
        Due.due("can(0, 2)", x.can(0, 2), -1);
        Due.due("can(0, -1)", x.can(0, -1), -1);
        Due.due("can(1, 0)", x.can(1, 0), -1);
        Due.due("can(-1, 0)", x.can(-1, 0), -1);
        Due.due("it changed nothing", x.of(0, 1), 0);
        // By a text that looks at v, and another that is seen.
        RefusalMaps y = new RefusalMaps();
        y.traveller(0, 9, 0);
        y.traveller(0, 9, 3);
        y.goal(0, 1);
        y.goal(1, 2);
        Due.nation(y, "shut 9 v=3|v>6");
        y.see(0, 1, 0);
        Due.due("v 3, 7, 8, 9: can(0, 0)", y.can(0, 0), 4);
        Due.due("v 3, 7, 8, 9: can(0, 1)", y.can(0, 1), 3);
        y.see(1, 1, 2);
        Due.due("of 1: what is seen of 0 is so, 1 comes to 2", y.can(1, 0), 6);
        Due.due("of 0: 1 does not come to 2", y.can(0, 0), 0);
    }

    private static void odds() {
        RefusalMaps x = new RefusalMaps();
        Due.due("odds without any", x.odds(0, 0), RefusalMaps.NO);
        x.traveller(0, 0, 0);
        Due.due("16 of 16, above", x.odds(0, 0), 1);
        Due.due("16 of 16, below", x.odds(0, 1), 1);
        x.gate(1, 0);
        Due.due("15 of 16, above", x.odds(0, 0), 15);
        Due.due("15 of 16, below", x.odds(0, 1), 16);
        x.gate(9, 0);
        Due.due("14 of 16, above", x.odds(0, 0), 7);
        Due.due("14 of 16, below", x.odds(0, 1), 8);
        x.gate(4, 0);
        Due.due("its own cell alone, above", x.odds(0, 0), 1);
        Due.due("its own cell alone, below", x.odds(0, 1), 16);
        x.gate(0, 0);
        Due.due("its own cell alone, refused there, too", x.odds(0, 0), 1);
        x.gate(4, 1);
        Due.due("1, 9 and beyond no more: 13 and its own", x.odds(0, 0), 7);
        x.chart(0, 65535);
        Due.due("the chart does not matter", x.odds(0, 0), 7);
        for (int c = 5; c < 8; c++) x.gate(c, 0);
        for (int c = 8; c < 10; c++) x.gate(c, 0);
        Due.due("0 and 4, above", x.odds(0, 0), 1);
        Due.due("0 and 4, below", x.odds(0, 1), 8);
        Due.due("odds(0, 2)", x.odds(0, 2), RefusalMaps.NO);
        Due.due("odds(0, -1)", x.odds(0, -1), RefusalMaps.NO);
        Due.due("odds(1, 0)", x.odds(1, 0), RefusalMaps.NO);
        Due.due("odds(-1, 0)", x.odds(-1, 0), RefusalMaps.NO);
    }

    private static void mean() {
        RefusalMaps x = new RefusalMaps();
        Due.due("mean without any", x.mean(0), RefusalMaps.NO);
        Due.due("mean without any", x.mean(1), RefusalMaps.NO);
        RefusalMaps y = new RefusalMaps();
        y.traveller(0, 0, 0);
        y.chart(0, 31);
        Due.due("5 of 1, above", y.mean(0), 5);
        Due.due("5 of 1, below", y.mean(1), 1);
        for (int i = 0; i < 4; i++) x.traveller(i, 0, 0);
        Due.due("0 of 4, above", x.mean(0), 0);
        Due.due("0 of 4, below", x.mean(1), 1);
        x.chart(0, 0b111);
        x.chart(3, 0b111);
        Due.due("6 of 4, above: what is drawn on two counts twice", x.mean(0), 3);
        Due.due("6 of 4, below", x.mean(1), 2);
        x.chart(2, 1 << 15);
        Due.due("7 of 4, above", x.mean(0), 7);
        Due.due("7 of 4, below", x.mean(1), 4);
        x.chart(2, 0b11);
        Due.due("8 of 4, above", x.mean(0), 2);
        Due.due("8 of 4, below", x.mean(1), 1);
        Due.due("mean(2)", x.mean(2), RefusalMaps.NO);
        Due.due("mean(-1)", x.mean(-1), RefusalMaps.NO);
    }

    public static void main(String[] args) {
        seeing();
        from();
        fromAmongOthers();
        can();
        odds();
        mean();
        Due.end();
    }
}
