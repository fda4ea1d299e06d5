/** Promises 10 to 12: the text, nations and their faults, what is told. */
public final class NationTest {
    private static void feeding() {
        RefusalMaps x = new RefusalMaps();
        Due.due("feed(-1)", x.feed(-1), -2);
        Due.due("feed(128)", x.feed(128), -2);
        Due.due("feed(0)", x.feed(0), 1);
        Due.due("feed(127)", x.feed(127), 2);
        for (int n = 3; n <= 100; n++) Due.due("feed", x.feed('a'), n);
        Due.due("feed: the 101st", x.feed('a'), -4);
        Due.due("feed(128): BAD comes first", x.feed(128), -2);
        Due.due("count(5)", x.count(5), 100);
        Due.due("nation(): byte 0 is no letter", x.nation(), -10);
        Due.due("count(5)", x.count(5), 0);
        Due.due("feed: the text is empty", x.feed('o'), 1);
    }

    private static void fault(String text, int place) {
        RefusalMaps x = new RefusalMaps();
        Due.due("nation() of \"" + text + "\"", Due.nation(x, text), -10 - place);
        Due.due("no nation came of it", x.count(1), 0);
        Due.due("the text is empty", x.count(5), 0);
    }

    private static void good(String text) {
        RefusalMaps x = new RefusalMaps();
        Due.due("nation() of \"" + text + "\"", Due.nation(x, text), 0);
        Due.due("a nation came of it", x.count(1), 1);
        Due.due("the text is empty", x.count(5), 0);
    }

    private static void reading() {
        fault("", 0);
        fault("x", 0);
        fault(" fade 1", 0);
        fault("Fade 1", 0);
        fault("o", 1);
        fault("oped 1", 3);
        fault("shot 1", 2);
        fault("face 1", 2);
        fault("fade", 4);
        fault("open", 4);
        fault("open1 p=1", 4);
        fault("open  1 p=1", 5);
        fault("open p=1", 5);
        fault("open 1", 6);
        fault("open 1;", 6);
        fault("open 1 ", 7);
        fault("open 12", 7);
        fault("open 123 p=1", 7);
        fault("open 1  p=1", 7);
        fault("open 1 q=1", 7);
        fault("open 1 )", 7);
        fault("open 1 p", 8);
        fault("open 1 p!1", 8);
        fault("open 1 p=", 9);
        fault("open 1 p==1", 9);
        fault("open 1 p=-1", 9);
        fault("open 1 p=123", 11);
        fault("open 1 p=1 ", 10);
        fault("open 1 p=1)", 10);
        fault("open 1 p=1!", 10);
        fault("open 1 p=1&", 11);
        fault("open 1 p=1&&p=2", 11);
        fault("open 1 p=1|&", 11);
        fault("open 1 p=1;", 11);
        fault("open 1 p=1;;", 11);
        fault("open 1 p=1; fade 1", 11);
        fault("open 1 (p=1", 11);
        fault("open 1 (p=1;", 11);
        fault("open 1 ()", 8);
        fault("open 1 !", 8);
        fault("open 1 !&", 8);
        fault("open 1 (p=1))", 12);
        good("open 1 p=1");
        good("open 12 p=12");
        good("open 00 p=00");
        good("shut 99 k<1&v=2|c>3&g<4|h=5");
        good("open 1 !p=1&!(k=2|!v=3)");
        good("open 1 p=1;shut 2 k=2;fade 3");
    }

    private static void fade() {
        good("fade 0");
        good("fade 99");
        good("fade 1;fade 2");
        fault("fade ", 5);
        fault("fade x", 5);
        fault("fade 123", 7);
        fault("fade 1 p=1", 6);
        fault("fade 1 ", 6);
        fault("fade 1;", 7);
    }

    private static void within() {
        good("open 1 ((((p=1))))");
        good("open 1 !!!!p=1");
        good("open 1 !(!(p=1))");
        good("open 1 (!(!p=1))&((((p=1))))");
        fault("open 1 (((((p=1)))))", 11);
        fault("open 1 !!!!!p=1", 11);
        fault("open 1 !(!(!p=1))", 11);
        fault("open 1 p=1&!(!((k=1)))", 15);
        fault("open 1 ((((p=1)|(p=2))))|((((!p=1))))", 29);
        good("open 1 ((((p=1)|(p=2))))|(((!p=1)))");
    }

    private static void manyClauses() {
        StringBuilder ten = new StringBuilder("fade 1");
        for (int i = 1; i < 10; i++) ten.append(";fade ").append(i);
        good(ten.toString());
        fault(ten + ";fade 1", 69);
        fault(ten + ";", 69);
        fault(ten + "12", 70);
        RefusalMaps x = new RefusalMaps();
        Due.nation(x, ten.toString());
        Due.due("FADE: the last one's", x.told(1), 9);
        Due.due("fade 0 behind another", Due.nation(x, "fade 7;open 1 p=0;fade 0"), 1);
        Due.due("FADE: the last one's, 0", x.told(1), 0);
        Due.due("another behind fade 0", Due.nation(x, "fade 0;fade 7;open 1 p=0"), 2);
        Due.due("FADE: the last one's, ahead of another clause", x.told(1), 7);
        // A text of 100 signs, read to its end.
        StringBuilder full = new StringBuilder("open 1 p=1");
        while (full.length() < 100) full.append(full.length() > 85 ? ";shut 2 (k=10)".substring(0, 14) : "|p=1");
        Due.due("100 signs", full.length(), 100);
        good(full.toString());
        full.setCharAt(99, '(');
        fault(full.toString(), 99);
        full.setCharAt(99, '&');
        fault(full.toString(), 100);
    }

    private static void holding() {
        RefusalMaps x = new RefusalMaps();
        x.traveller(0, 3, 0);
        x.traveller(1, 7, 0);
        Due.due("the first", Due.nation(x, "open 5 p=0;fade 3"), 0);
        Due.due("welcome(0, 0)", x.welcome(0, 0), 8);
        Due.due("FADE", x.told(1), 3);
        Due.due("the second", Due.nation(x, "open 7 p=0"), 1);
        Due.due("welcome(0, 0): the newest holds", x.welcome(0, 0), 10);
        Due.due("FADE without", x.told(1), 0);
        Due.due("a fault", Due.nation(x, "open 9 p=0;fade 2;"), -10 - 18);
        Due.due("welcome(0, 0): what held holds", x.welcome(0, 0), 10);
        Due.due("FADE, too", x.told(1), 0);
        for (int n = 2; n < 6; n++) Due.due("one more", Due.nation(x, "open 1 v=3;shut 4 v=7;open 2 v=7"), n);
        Due.due("welcome(0, 0)", x.welcome(0, 0), 4);
        Due.due("welcome(1, 0)", x.welcome(1, 0), 3 - 4 + 2 + 7);
        Due.due("the seventh", Due.nation(x, "fade 1"), -4);
        Due.due("the text stays", x.count(5), 6);
        Due.due("count(1)", x.count(1), 6);
        Due.due("feed goes on", x.feed('0'), 7);
    }

    private static int sum(String text, int hours) {
        RefusalMaps x = new RefusalMaps();
        for (int k = 0; k < 3; k++) x.traveller(0, 2 * k, 0);
        x.gate(5, 6);
        Due.due("nation() of \"" + text + "\"", Due.nation(x, text), 0);
        x.pass(hours);
        return x.welcome(2, 5) - 6;
    }

    /** Traveller 2 of kind 0 and v 4, at cell 5 with its gate of 6. */
    private static void meaning() {
        Due.due("p", sum("open 1 p=2;open 2 p<2;open 4 p>2;open 8 p<3;open 16 p>1", 0), 25);
        Due.due("k", sum("open 1 k=0;open 2 k<1;open 4 k>0", 0), 3);
        Due.due("v", sum("open 1 v=4;open 2 v<4;open 4 v>3", 0), 5);
        RefusalMaps x = new RefusalMaps();
        for (int k = 0; k < 6; k++) x.traveller(k == 5 ? 6 : k, 0, 0);
        Due.nation(x, "open 10 k=0;open 20 k=1;open 30 k=3;open 40 k>3;open 5 k<2;open 9 k=6");
        int[] more = {15, 25, 0, 30, 40, 49};
        for (int k = 0; k < 6; k++) if (k != 2) Due.due("k of " + k, x.welcome(k, 7), 3 + more[k] - (k == 5 ? 4 : 0));
        Due.due("< behind &", sum("open 1 p=1&p<3;open 2 p=2&p<3;open 4 p=2&p<2;open 8 p<2|p=1;open 16 p<2|p<3", 0), 18);
        Due.due("> behind &", sum("open 1 p=1&p>1;open 2 p=2&p>1;open 4 p=2&p>2;open 8 p>2|p=1;open 16 p>2|p>1", 0), 18);
        Due.due("= behind &", sum("open 1 p<1&p=2;open 2 p<3&p=2;open 4 p<3&p=1;open 8 p=0|p=1;open 16 p=0|p=2", 0), 18);
        Due.due("c", sum("open 1 c=5;open 2 c<5;open 4 c>4;open 8 c<55", 0), 13);
        Due.due("g", sum("open 1 g=6;open 2 g<6;open 4 g>5;open 8 g>60", 0), 5);
        Due.due("h at 7", sum("open 1 h=7;open 2 h<7;open 4 h>6", 7), 5);
        Due.due("h at 27", sum("open 1 h=7;open 2 h<10;open 4 h>9", 27), 3);
        Due.due("shut", sum("shut 9 p=2;open 2 p=2;shut 90 p=1", 0), -7);
        Due.due("& ahead of |", sum("open 1 p=2|p=2&p=1;open 2 p=1&p=2|p=2;open 4 (p=2|p=2)&p=1;open 8 p=1|p=1&p=2", 0), 3);
        Due.due("& ahead of |, three", sum("open 1 p=1&p=2|p=2&p=2|p=1;open 2 p=2&p=2&p=1|p=1", 0), 1);
        Due.due("! binds the closest", sum("open 1 !p=1&p=2;open 2 !p=2|p=2;open 4 !(p=2|p=1);open 8 !p=1&p=1", 0), 3);
        Due.due("!!", sum("open 1 !!p=2;open 2 !!!p=2;open 4 !(!(p=2))&!!p=2", 0), 5);
        Due.due("deep", sum("open 1 p=1|(p=2&(p=1|(p=2&(p=1|k=0))));open 2 p=1|(p=2&(p=1|(p=2&(p=1|k=1))))", 0), 1);
        Due.due("many &", sum("open 1 p=2&p=2&p=2&p=2&p=2;open 2 p=2&p=2&p=2&p=2&p=1;open 4 p=1|p=1|p=1|p=1|p=2", 0), 5);
        Due.due("all ten", sum("open 1 k=0;open 1 k=0;open 1 k=0;open 1 k=0;open 1 k=0;open 1 k=0;open 1 k=0;open 1 k=0;shut 50 k=0", 0), -42);
    }

    private static void telling() {
        RefusalMaps x = new RefusalMaps();
        for (int what : new int[] {-1, 4, 9, 26, Integer.MIN_VALUE, Integer.MAX_VALUE}) Due.due("told(what)", x.told(what), -1);
        for (int i = 0; i < 6; i++) {
            x.traveller(0, 0, i);
            x.goal(i, i < 5 ? 15 : 5);
        }
        x.gate(6, 0);
        x.gate(7, 0);
        Due.due("who is at its goal", x.told(2), 1 << 5);
        Due.due("noes", x.told(3), 0);
        x.pass(3);
        Due.due("noes of all", x.told(3), x.of(0, 5) + x.of(1, 5) + x.of(2, 5) + x.of(3, 5) + x.of(4, 5));
        Due.due("hour", x.told(0), 3);
        Due.due("gate", x.told(16), 0);
        x.put(0, 15);
        Due.due("two at their goals", x.told(2), 1 << 5 | 1);
        x.goal(5, -1);
        Due.due("no goal", x.told(2), 1);
    }

    public static void main(String[] args) {
        feeding();
        reading();
        fade();
        within();
        manyClauses();
        holding();
        meaning();
        telling();
        Due.end();
    }
}
