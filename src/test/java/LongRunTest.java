import java.lang.management.ManagementFactory;

/**
 * Runs of 512 calls with the dearest among them end and answer, and take next to no room: all calls of a run live in
 * one room of some 600,000 objects.
 */
public final class LongRunTest {
    private static final String[] TEXTS = {
        "fade 1;shut 9 p=9|p=7|p=8|p=9|k=9|k=8|k=7|h=1|h=3|h=7|c=3|c=7|c=1|v=9|v=8|v=7|g=9|g=8|h=2|h=5|k>0",
        "fade 9;shut 9 (c=2|c=7|c=8|c=13)&h<7;shut 9 c=1&h>3;shut 9 c=4&h<9;shut 5 c=11|c=6|c=9;open 1 k=4",
        "fade 40;open 1 ((((p=1))))|((((p=2))))|!!!!p=1|!!!!p=2;shut 2 h<5;shut 3 h>4&h<8;open 99 k=4&h=8",
    };

    private static long allocated() {
        return ((com.sun.management.ThreadMXBean) ManagementFactory.getThreadMXBean()).getThreadAllocatedBytes(Thread.currentThread().getId());
    }

    private static RefusalMaps crowd(String text) {
        RefusalMaps x = new RefusalMaps();
        for (int i = 0; i < 6; i++) x.traveller(4, i == 0 ? 0 : 3, i == 0 ? 0 : i * 2 + 1);
        Due.due("nation()", Due.nation(x, text), 0);
        for (int i = 0; i < 6; i++) x.goal(i, 15 - i);
        x.gate(15, 0);
        for (int i = 0; i < 5; i++) x.see(i, 12, x.on(12, 10 + i));
        return x;
    }

    private static long dear(RefusalMaps x, int call) {
        switch (call) {
            case 0: return x.of(0, 9);
            case 1: return x.of(0, 10);
            case 2: return x.can(0, 0);
            case 3: return x.on(40, 30);
            case 4: return x.of(0, 8);
            case 5: return x.ends(1);
            case 6: return x.act(0, 2, 5);
            case 7: return x.tape(0, 3, 60);
            case 8: return x.image();
            default: return x.undo();
        }
    }

    /** The same question has the same answer, however often it is asked. */
    private static void asked() {
        for (String text : TEXTS) {
            for (int call = 0; call < 10; call++) {
                RefusalMaps x = crowd(text);
                if (call == 9) x.image();
                long first = dear(x, call);
                long before = allocated();
                boolean same = true;
                for (int i = 0; i < 511 - text.length() - 40; i++) same &= dear(x, call) == first;
                long took = allocated() - before;
                if (!same) Due.wrong("call " + call + " answers otherwise the next time, by " + text);
                if (took > 2000) Due.wrong("call " + call + " takes " + took + " bytes, by " + text);
                Due.right();
            }
        }
    }

    private static void nations() {
        RefusalMaps x = new RefusalMaps();
        String text = "open 1 ((((p=1))))|!!p=2";
        Due.nation(x, text);
        long before = allocated();
        for (int n = 1; n < 6; n++) {
            for (int i = 0; i < text.length(); i++) x.feed(text.charAt(i));
            Due.due("nation()", x.nation(), n);
        }
        for (int i = 0; i < 300; i++) x.nation();
        for (int i = 0; i < 50; i++) x.feed('(');
        long took = allocated() - before;
        if (took > 20000) Due.wrong("nations take " + took + " bytes");
    }

    /** A new object takes some hundred objects' room, not more. */
    private static void objects() {
        new RefusalMaps();
        long before = allocated();
        for (int i = 0; i < 100; i++) new RefusalMaps();
        long took = (allocated() - before) / 100;
        if (took > 12000) Due.wrong("a new object takes " + took + " bytes");
        Due.right();
    }

    public static void main(String[] args) {
        asked();
        nations();
        objects();
        Due.end();
    }
}
