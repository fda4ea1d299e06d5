import java.util.ArrayList;
import java.util.List;
import java.util.function.Supplier;

/**
 * The document's lines on answers: which refusal is due when one argument, or several at once, are not as told (the
 * first that the call's words name), and that what is refused, and what is asked, changes nothing.
 * No object is used for more than 512 calls.
 */
public final class RefusalTest {
    private static final int MAX = Integer.MAX_VALUE, MIN = Integer.MIN_VALUE;
    private static final int NONE = -1, BAD = -2, STATE = -3, FULL = -4, NOTHING = -11, CAST = -12, PLACE = -13, SIZE = -14;
    private static final long NO = Long.MIN_VALUE;
    /** Stands for the argument of a refusal that the state brings, whatever is said. */
    private static final int ALWAYS = -1;

    private interface Call {
        long answer(RefusalMaps x, int[] with);
    }

    /** By these values of one argument the answer is due. */
    private record Refusal(int argument, long answer, int... values) { }

    // ---- the objects that are called

    /** Some of all that there can be, and room for more: travellers 0 .. 4. */
    private static RefusalMaps some() {
        RefusalMaps x = new RefusalMaps();
        int[] kinds = {0, 6, 4, 5, 3};
        for (int i = 0; i < 5; i++) x.traveller(kinds[i], 5, 3 * i);
        Due.nation(x, "shut 3 c=1|c=4;fade 7");
        x.image();
        Due.nation(x, "shut 3 c=1|c=6;open 1 k>3;fade 3");
        for (int i = 0; i < 5; i++) x.goal(i, 15 - 3 * i);
        x.goal(4, -1);
        x.chart(0, 1 << 4 | 1 << 10);
        x.chart(3, 65535);
        x.gate(9, 0);
        x.gate(15, 9);
        x.row(1, 0, 9);
        x.row(1, 3, 1);
        x.pass(2);
        x.see(0, 1, x.on(1, 10));
        x.see(2, 12, x.on(12, 12));
        x.plan(0, 0);
        x.plan(2, 3);
        x.plan(3, 1);
        x.book(1, x.of(1, 4));
        x.book(0, 77);
        x.tape(0, 0, 20);
        for (int i = 0; i < 3; i++) x.item(0, i, 3);
        x.tape(1, 1, 4);
        x.tape(2, 2, 6);
        for (int i = 0; i < 6; i++) x.item(2, i, i + 1);
        x.tape(3, 3, 60);
        x.item(3, 59, NO);
        x.tape(4, 2, 0);
        for (char sign : "open 1 p=".toCharArray()) x.feed(sign);
        x.act(1, 2, 9);
        return x;
    }

    /** As many of all as there can be. */
    private static RefusalMaps full() {
        RefusalMaps x = new RefusalMaps();
        for (int i = 0; i < 6; i++) x.traveller(6 - i, i, 2 * i);
        for (int i = 0; i < 6; i++) Due.nation(x, "fade " + (i + 3));
        for (int i = 0; i < 6; i++) x.goal(i, 15 - i);
        for (int i = 0; i < 5; i++) x.see(i, 2 * i, x.on(2 * i, 10 + i));
        for (int i = 0; i < 8; i++) x.plan(i % 3 == 0 ? 0 : 1, i % 6);
        for (int i = 0; i < 8; i++) x.book(i % 6, i / 6);
        x.image();
        for (int i = 0; i < 6; i++) x.tape(i, i % 5, 60);
        for (int i = 0; i < 100; i++) x.feed("open 1 p=1|".charAt(i % 11));
        return x;
    }

    /** Nobody is there, nothing is told, no image is taken. */
    private static RefusalMaps empty() {
        return new RefusalMaps();
    }

    /** Hour 9990. */
    private static RefusalMaps late() {
        RefusalMaps x = new RefusalMaps();
        x.traveller(0, 0, 0);
        x.goal(0, 15);
        x.gate(1, 0);
        for (int i = 0; i < 249; i++) x.pass(40);
        x.pass(30);
        return x;
    }

    // ---- all that can be asked of an object, in the end by calls that change it

    private static List<Long> all(RefusalMaps x) {
        List<Long> all = new ArrayList<>();
        List<Integer> tapes = List.of(20, 4, 6, 60, 1, 1);
        addState(x, all);
        for (int what = 0; what < 7; what++) all.add((long) x.count(what));
        for (int i = 0; i < 13; i++) all.add((long) x.trace(i));
        for (int i = 0; i < 6; i++) {
            for (int item = 0; item < tapes.get(i); item += i == 3 ? 59 : 1) all.add(x.read(i, item));
            all.add((long) x.item(i, 60, 0));
            all.add((long) x.shift(i, 0, i, 0, 0));
        }
        for (int i = 0; i < 2; i++) {
            for (int part = 0; part < 4; part++) all.add((long) x.row(i, part, part));
        }
        all.add((long) x.nation());
        int image = x.undo();
        all.add((long) image);
        if (image < 0) return all;
        addState(x, all);
        for (int i = 0; i < 2; i++) {
            for (int part = 0; part < 4; part++) all.add((long) x.row(i, part, 0));
        }
        return all;
    }

    /** What the image holds, as far as it can be asked. */
    private static void addState(RefusalMaps x, List<Long> all) {
        for (int i = 0; i < 6; i++) {
            for (int what = 0; what < 11; what++) all.add((long) x.of(i, what));
        }
        for (int what = 0; what < 26; what += what == 3 ? 7 : 1) all.add((long) x.told(what));
        for (int what = 2; what < 5; what++) all.add((long) x.count(what));
        all.add((long) x.ends(0));
        all.add((long) x.ends(1));
        all.add((long) x.looked());
        all.add((long) x.welcome(0, 1));
    }

    // ---- what is due

    /** What an object of a state tells of itself where nothing was called ahead. */
    private static Supplier<RefusalMaps> state;
    private static List<Long> untouched;

    private static void by(Supplier<RefusalMaps> maker) {
        state = maker;
        untouched = all(maker.get());
    }

    private static void changesNothing(String name, Call call, int[] with, Long want) {
        RefusalMaps x = state.get();
        long got = call.answer(x, with);
        StringBuilder said = new StringBuilder(name).append('(');
        for (int i = 0; i < with.length; i++) said.append(i > 0 ? ", " : "").append(with[i]);
        said.append(')');
        if (want != null) Due.due(said.toString(), got, want);
        Due.due(said + ": changes nothing", all(x).equals(untouched) ? 1 : 0, 1);
    }

    /**
     * Calls with each of the refused values alone, and with each set of refused arguments together; the refusals stand
     * in the order of the document's words.
     */
    private static void refused(String name, Call call, int[] good, Refusal... refusals) {
        for (int set = 1; set < 1 << refusals.length; set++) {
            int[] with = good.clone();
            boolean[] spoilt = new boolean[good.length];
            boolean possible = true;
            Refusal first = null;
            for (int i = 0; i < refusals.length; i++) {
                Refusal each = refusals[i];
                if ((set >> i & 1) == 0) {
                    possible &= each.argument != ALWAYS;
                    continue;
                }
                if (first == null) first = each;
                if (each.argument == ALWAYS) continue;
                possible &= !spoilt[each.argument];
                spoilt[each.argument] = true;
                with[each.argument] = each.values[0];
            }
            if (!possible) continue;
            changesNothing(name, call, with, first.answer);
            for (int i = 1; i < first.values.length; i++) {
                with[first.argument] = first.values[i];
                changesNothing(name, call, with.clone(), first.answer);
            }
        }
    }

    private static Refusal not(int argument, long answer, int... values) {
        return new Refusal(argument, answer, values);
    }

    private static Refusal always(long answer) {
        return new Refusal(ALWAYS, answer);
    }

    private static int[] of(int... numbers) {
        return numbers;
    }

    // ---- the calls

    private static final int[] NO_CELL = {-1, 16, MIN, MAX}, NO_DIGIT = {-1, 10, MIN, MAX}, NO_CHART = {-1, 65536, MIN, MAX};

    /** Promises 2 to 12; `one` is the number that no traveller has. */
    private static void travellersGatesNations(int one) {
        int[] nobody = {-1, one, 6, MIN, MAX};
        refused("of", (x, a) -> x.of(a[0], a[1]), of(0, 0), not(0, NONE, nobody), not(1, NONE, -1, 11, MIN, MAX));
        refused("welcome", (x, a) -> x.welcome(a[0], a[1]), of(0, 0), not(0, -10001, nobody), not(1, -10001, NO_CELL));
        refused("goal", (x, a) -> x.goal(a[0], a[1]), of(0, 0), not(0, NONE, nobody), not(1, NONE, -2, 16, MIN, MAX));
        refused("put", (x, a) -> x.put(a[0], a[1]), of(0, 1), not(0, NONE, nobody), not(1, NONE, NO_CELL));
        refused("chart", (x, a) -> x.chart(a[0], a[1]), of(0, 1), not(0, NONE, nobody), not(1, BAD, NO_CHART));
        refused("gate", (x, a) -> x.gate(a[0], a[1]), of(0, 1), not(0, NONE, NO_CELL), not(1, BAD, NO_DIGIT));
        Call row = (x, a) -> x.row(a[0], a[1], a[2]);
        Refusal noPart = not(1, NONE, -1, 4, MIN, MAX);
        refused("row", row, of(one == 5 ? 1 : 0, 1, 7), not(0, NONE, nobody), noPart, not(2, BAD, NO_DIGIT));
        refused("row of another KIND", row, of(3, 1, 7), not(0, NONE, nobody), noPart, not(2, BAD, NO_DIGIT), always(STATE));
        refused("told", (x, a) -> x.told(a[0]), of(0), not(0, NONE, -1, 4, 5, 6, 7, 8, 9, 26, 27, MIN, MAX));
    }

    /** Promises 13 to 20. */
    private static void hoursWaysSeen(int one) {
        int[] nobody = {-1, one, 6, MIN, MAX};
        refused("pass", (x, a) -> x.pass(a[0]), of(0), not(0, BAD, -1, 41, MIN, MAX));
        refused("on", (x, a) -> x.on(a[0], a[1]), of(0, 10),
            not(1, NONE, -1, 0, 9, 10 + one, 16, 19, 20 + one, 26, 29, 30 + one, 36, 39, 40, 45, 110, -10, MIN, MAX), not(0, BAD, -1, 41, MIN, MAX));
        refused("way", (x, a) -> x.way(a[0], a[1], a[2]), of(0, 15, 0), not(0, NONE, nobody), not(1, NONE, NO_CELL), not(2, NONE, -2, 15, MIN, MAX));
        refused("straight", (x, a) -> x.straight(a[0], a[1]), of(0, 15), not(0, NONE, nobody), not(1, NONE, NO_CELL));
        refused("can", (x, a) -> x.can(a[0], a[1]), of(0, 0), not(0, NONE, nobody), not(1, NONE, -1, 2, MIN, MAX));
        refused("odds", (x, a) -> x.odds(a[0], a[1]), of(0, 0), not(0, NO, nobody), not(1, NO, -1, 2, MIN, MAX));
        refused("mean", (x, a) -> x.mean(a[0]), of(0), not(0, NO, -1, 2, MIN, MAX));
    }

    /** The calls by which something comes, in a state where it does, and in one where there is no room. */
    private static void coming(boolean room) {
        int one = room ? 5 : 6;
        int[] nobody = {-2, one, 6, MIN, MAX};
        Refusal[] last = room ? new Refusal[0] : new Refusal[] {always(FULL)};
        refused("traveller", (x, a) -> x.traveller(a[0], a[1], a[2]), of(0, 0, 0),
            with(last, not(0, NONE, -1, 7, MIN, MAX), not(2, NONE, NO_CELL), not(1, BAD, NO_DIGIT)));
        refused("feed", (x, a) -> x.feed(a[0]), of('1'), with(last, not(0, BAD, -1, 128, MIN, MAX)));
        refused("see", (x, a) -> x.see(a[0], a[1], a[2]), of(0, 0, 0),
            with(last, not(0, NONE, nobody), not(2, NONE, NO_CELL), not(1, BAD, -1, 13, MIN, MAX)));
        refused("plan", (x, a) -> x.plan(a[0], a[1]), of(0, 0), with(last, not(0, NONE, -2, 4, MIN, MAX)));
        for (int what : of(1, 3)) {
            refused("plan", (x, a) -> x.plan(what, a[0]), of(0), with(last, not(0, NONE, -1, one, 10, MIN, MAX)));
        }
        refused("plan", (x, a) -> x.plan(2, a[0]), of(1),
            with(last, not(0, NONE, -1, -10, -11, one, 9, 10 + one, 19, 10 * one, 10 * one + 1, 90, 99, 100, 101, MIN, MAX)));
        refused("book", (x, a) -> x.book(a[0], a[1]), of(0, 0), with(last, not(0, NONE, nobody), not(1, BAD, NO_CHART)));
        refused("nation", (x, a) -> x.nation(), of(), last);
    }

    private static Refusal[] with(Refusal[] last, Refusal... ahead) {
        List<Refusal> all = new ArrayList<>(List.of(ahead));
        all.addAll(List.of(last));
        return all.toArray(new Refusal[0]);
    }

    /** Promises 22, 25, 29 to 35: tapes 0 .. 4 of some() are of bytes, shorts, ints, longs, ints; 5 holds nothing. */
    private static void rest() {
        int[] noTape = {-1, 6, MIN, MAX};
        refused("ends", (x, a) -> x.ends(a[0]), of(0), not(0, NONE, -1, 2, MIN, MAX));
        refused("judge", (x, a) -> x.judge(a[0], a[1]), of(0, 0), not(0, NONE, noTape));
        for (int tape = 1; tape < 5; tape++) {
            for (int i : of(0, -1, 60, MIN, MAX)) refused("judge no bytes", (x, a) -> x.judge(a[0], i), of(tape), not(0, NONE, noTape), always(CAST));
        }
        refused("trace", (x, a) -> x.trace(a[0]), of(0), not(0, NONE, -1, 12, 19, 20, 21, MIN, MAX));
        refused("taken", (x, a) -> x.taken(a[0], a[1]), of(0, 0), not(1, BAD, -1, 7, MIN, MAX), not(0, NOTHING, -1, 5, 6, MIN, MAX));
        refused("taken for what it is not", (x, a) -> x.taken(a[0], a[1]), of(2, 2), not(1, BAD, -1, 7), not(0, NOTHING, -1, 5), always(CAST));
        refused("count", (x, a) -> x.count(a[0]), of(0), not(0, BAD, -1, 7, MIN, MAX));
        refused("tape", (x, a) -> x.tape(a[0], a[1], a[2]), of(2, 2, 2), not(0, NONE, noTape), not(1, BAD, -2, 5, MIN, MAX), not(2, BAD, 61, MAX),
            not(2, SIZE, -1, MIN));
        refused("tape, sort -1", (x, a) -> x.tape(a[0], -1, 0), of(2), not(0, NONE, noTape));
        Call item = (x, a) -> x.item(a[0], a[1], 7);
        refused("item", item, of(2, 0), not(0, NONE, noTape), not(1, PLACE, -1, 6, 60, MIN, MAX));
        refused("item of a row of none", item, of(4, 0), not(0, NONE, noTape), not(1, PLACE, -1, 0, 1, MIN, MAX));
        refused("item of nothing", item, of(5, 0), not(0, NONE, noTape), always(NOTHING), not(1, PLACE, -1, 0, MIN, MAX));
        refused("read", (x, a) -> x.read(a[0], a[1]), of(2, 0), not(0, NO, noTape), not(1, NO, -1, 6, 60, MIN, MAX));
        refused("read of a row of none", (x, a) -> x.read(4, a[0]), of(0), not(0, NO, -1, 0, 1, MIN, MAX));
        refused("read of nothing", (x, a) -> x.read(5, a[0]), of(0), not(0, NO, -1, 0, 1, MIN, MAX));
        shifts();
    }

    private static void shifts() {
        int[] noTape = {-1, 6, MIN, MAX};
        Call shift = (x, a) -> x.shift(a[0], a[1], a[2], a[3], a[4]);
        Refusal[] nones = {not(0, NONE, noTape), not(2, NONE, noTape)};
        Refusal[] places = {not(4, PLACE, -1, 5, 7, MIN, MAX), not(1, PLACE, -1, 5, 6, 7, MIN, MAX), not(3, PLACE, -1, 5, 6, 7, MIN, MAX)};
        refused("shift", shift, of(2, 2, 2, 3, 2), with(places, nones));
        for (int from : of(2, 5)) {
            for (int to : of(2, 5)) {
                if (from + to > 4) refused("shift of nothing", shift, of(from, 0, to, 0, 1), with(with(places, always(NOTHING)), nones));
            }
        }
        for (int other : of(0, 1, 3)) refused("shift of unlike sorts", shift, of(2, 0, other, 0, 1), with(with(places, always(CAST)), nones));
        // To and from a row of none.
        for (int[] a : new int[][] {{2, 0, 4, 0, 1}, {4, 0, 2, 0, 1}, {2, 0, 4, 1, 0}, {4, 1, 2, 0, 0}}) changesNothing("shift", shift, a, (long) PLACE);
        changesNothing("shift", shift, of(2, 6, 4, 0, 0), 0L);
        changesNothing("shift", shift, of(4, 0, 2, 6, 0), 0L);
    }

    private record Question(String name, Call call, int[] with) { }

    /** All that can be asked, by numbers that are not refused. */
    private static List<Question> questions() {
        List<Question> all = new ArrayList<>();
        for (int one = 0; one < 5; one++) {
            for (int what = 0; what < 11; what++) all.add(new Question("of", (x, a) -> x.of(a[0], a[1]), of(one, what)));
            for (int k = 0; k < 7; k++) all.add(new Question("taken", (x, a) -> x.taken(a[0], a[1]), of(one, k)));
            for (int cell : of(0, 7, 15)) {
                all.add(new Question("welcome", (x, a) -> x.welcome(a[0], a[1]), of(one, cell)));
                all.add(new Question("straight", (x, a) -> x.straight(a[0], a[1]), of(one, cell)));
                for (int k : of(-1, 0)) all.add(new Question("way", (x, a) -> x.way(a[0], a[1], a[2]), of(one, cell, k)));
            }
            for (int n : of(0, 1, 40)) {
                for (int sort = 10; sort <= 30; sort += 10) all.add(new Question("on", (x, a) -> x.on(a[0], a[1]), of(n, sort + one)));
            }
            for (int part : of(0, 1)) {
                all.add(new Question("can", (x, a) -> x.can(a[0], a[1]), of(one, part)));
                all.add(new Question("odds", (x, a) -> x.odds(a[0], a[1]), of(one, part)));
            }
        }
        for (int what : of(0, 1)) {
            all.add(new Question("mean", (x, a) -> x.mean(a[0]), of(what)));
            all.add(new Question("ends", (x, a) -> x.ends(a[0]), of(what)));
        }
        for (int what : of(0, 1, 2, 3, 10, 25)) all.add(new Question("told", (x, a) -> x.told(a[0]), of(what)));
        for (int what = 0; what < 7; what++) all.add(new Question("count", (x, a) -> x.count(a[0]), of(what)));
        for (int i = 0; i < 12; i++) all.add(new Question("trace", (x, a) -> x.trace(a[0]), of(i)));
        for (int i : of(-1, 0, 1, 20, MAX)) all.add(new Question("judge", (x, a) -> x.judge(a[0], a[1]), of(0, i)));
        all.add(new Question("judge nothing", (x, a) -> x.judge(a[0], a[1]), of(5, 0)));
        all.add(new Question("looked", (x, a) -> x.looked(), of()));
        all.add(new Question("read", (x, a) -> x.read(a[0], a[1]), of(3, 59)));
        all.add(new Question("pass", (x, a) -> x.pass(a[0]), of(0)));
        return all;
    }

    private static void asked() {
        for (Question each : questions()) changesNothing(each.name, each.call, each.with, null);
    }

    /** Each question has the answer that it has when nothing was asked ahead of it, whichever was. */
    private static void inAnyOrder() {
        List<Question> questions = questions();
        long[] alone = new long[questions.size()];
        for (int i = 0; i < alone.length; i++) alone[i] = questions.get(i).call.answer(state.get(), questions.get(i).with);
        for (int step : of(1, 2, 5, 101, alone.length - 1)) {
            RefusalMaps x = state.get();
            for (int n = 0; n < alone.length; n++) {
                int i = (n * step + step) % alone.length;
                Due.due("question " + i + ", " + questions.get(i).name + ", by steps of " + step, questions.get(i).call.answer(x, questions.get(i).with), alone[i]);
            }
        }
        RefusalMaps gone = onTheWay();
        gone.pass(6);
        for (Question ahead : questions) {
            RefusalMaps x = onTheWay();
            for (int i = 0; i < 6; i++) x.plan(0, 0);
            ahead.call.answer(x, ahead.with);
            Due.due("ends(0) behind " + ahead.name, x.ends(0), Integer.bitCount(gone.told(2)));
            ahead.call.answer(x, ahead.with);
            Due.due("ends(1) behind " + ahead.name, x.ends(1), gone.told(3));
        }
    }

    /** Each of the five has a GOAL beside it, not all are let in there; the PLAN is empty. */
    private static RefusalMaps onTheWay() {
        RefusalMaps x = state.get();
        x.plan(-1, 0);
        for (int one = 0; one < 5; one++) {
            x.chart(one, 0);
            x.goal(one, x.of(one, 2) ^ 1);
        }
        x.gate(x.of(1, 3), 0);
        return x;
    }

    private static List<Long> held(RefusalMaps x) {
        List<Long> held = new ArrayList<>();
        addState(x, held);
        return held;
    }

    /** A FAULT changes THE TEXT alone, and an act of none THE TRACE alone. */
    private static void nothingElse() {
        RefusalMaps x = state.get();
        RefusalMaps y = state.get();
        Due.due("nation(), a FAULT", x.nation(), -10 - 9);
        Due.due("THE TEXT is empty then", x.count(5), 0);
        Due.due("all else is as it was", held(x).equals(held(y)) ? 1 : 0, 1);
        Due.due("THE TRACE, too", x.count(6), y.count(6));
        Due.due("NATIONS, too", x.count(1), y.count(1));
        for (int[] none : new int[][] {{5, 0}, {-1, 0}, {0, 3}, {0, -1}, {MIN, 0}, {MAX, 0}, {0, MIN}, {0, MAX}, {5, 3}}) {
            RefusalMaps z = state.get();
            Due.due("act(" + none[0] + ", " + none[1] + ", 5)", z.act(none[0], none[1], 5), 0);
            Due.due("no TRACE then", z.count(6), 0);
            for (int i : of(0, 1, 11, 19)) Due.due("trace(" + i + ")", z.trace(i), NONE);
            Due.due("all else is as it was", held(z).equals(held(y)) ? 1 : 0, 1);
            Due.due("THE TEXT, too", z.count(5), y.count(5));
        }
    }

    private static void ofNobody() {
        int[] anyone = {0, 1, 5, -1, 6, MIN, MAX};
        refused("of", (x, a) -> x.of(a[0], 0), of(0), not(0, NONE, anyone));
        refused("welcome", (x, a) -> x.welcome(a[0], 0), of(0), not(0, -10001, anyone));
        refused("goal", (x, a) -> x.goal(a[0], 0), of(0), not(0, NONE, anyone));
        refused("put", (x, a) -> x.put(a[0], 0), of(0), not(0, NONE, anyone));
        refused("chart", (x, a) -> x.chart(a[0], a[1]), of(0, 0), not(0, NONE, anyone));
        refused("chart", (x, a) -> x.chart(a[0], a[1]), of(0, 0), always(NONE), not(1, BAD, NO_CHART));
        refused("row", (x, a) -> x.row(a[0], 0, 0), of(0), not(0, NONE, anyone));
        refused("row", (x, a) -> x.row(0, a[0], a[1]), of(0, 0), always(NONE), not(0, NONE, -1, 4), not(1, BAD, NO_DIGIT));
        refused("on", (x, a) -> x.on(a[0], a[1]), of(0, 10), not(1, NONE, 10, 20, 30, 0, 15));
        refused("on", (x, a) -> x.on(a[0], a[1]), of(0, 10), always(NONE), not(0, BAD, -1, 41));
        refused("way", (x, a) -> x.way(a[0], 0, -1), of(0), not(0, NONE, anyone));
        refused("straight", (x, a) -> x.straight(a[0], 0), of(0), not(0, NONE, anyone));
        refused("see", (x, a) -> x.see(a[0], a[1], 0), of(0, 0), not(0, NONE, 0, 1, 5, 6, -2));
        refused("see", (x, a) -> x.see(0, a[0], 0), of(0), always(NONE), not(0, BAD, -1, 13));
        refused("can", (x, a) -> x.can(a[0], 0), of(0), not(0, NONE, anyone));
        refused("odds", (x, a) -> x.odds(a[0], 0), of(0), not(0, NO, anyone));
        refused("mean", (x, a) -> x.mean(a[0]), of(0), not(0, NO, 0, 1, -1, 2));
        for (int what : of(1, 2, 3)) refused("plan", (x, a) -> x.plan(what, a[0]), of(0), not(0, NONE, anyone));
        refused("book", (x, a) -> x.book(a[0], a[1]), of(0, 0), not(0, NONE, 0, 1, 5, 6, -2));
        refused("book", (x, a) -> x.book(0, a[0]), of(0), always(NONE), not(0, BAD, NO_CHART));
        refused("undo", (x, a) -> x.undo(), of(), always(STATE));
        refused("act", (x, a) -> x.act(a[0], 0, 5), of(0), not(0, 0, anyone));
        refused("trace", (x, a) -> x.trace(a[0]), of(0), not(0, NONE, 0, 1, 19, 20, -1));
        refused("taken", (x, a) -> x.taken(a[0], a[1]), of(0, 0), not(1, BAD, -1, 7), not(0, NOTHING, anyone));
        for (int i = 0; i < 6; i++) {
            refused("item", (x, a) -> x.item(a[0], a[1], 1), of(i, 0), not(0, NONE, -1, 6), always(NOTHING), not(1, PLACE, -1, 0, 60));
            refused("read", (x, a) -> x.read(a[0], 0), of(i), always(NO));
            refused("judge", (x, a) -> x.judge(a[0], 0), of(i), always(100));
            refused("shift", (x, a) -> x.shift(a[0], 0, a[1], 0, 0), of(i, i), not(0, NONE, -1, 6), not(1, NONE, -1, 6), always(NOTHING));
        }
        changesNothing("looked", (x, a) -> x.looked(), of(), -5L);
        changesNothing("ends", (x, a) -> x.ends(0), of(), 0L);
        changesNothing("ends", (x, a) -> x.ends(1), of(), 0L);
        changesNothing("see", (x, a) -> x.see(-1, 99, 99), of(), 0L);
        changesNothing("plan", (x, a) -> x.plan(-1, 99), of(), 0L);
        changesNothing("book", (x, a) -> x.book(-1, -99), of(), 0L);
    }

    private static void tooLate() {
        refused("pass to above 9999", (x, a) -> x.pass(a[0]), of(9), not(0, BAD, -1, 41, MIN, MAX), not(0, STATE, 10, 11, 40));
        RefusalMaps x = late();
        Due.due("pass(9) to 9999", x.pass(9), 9999);
        Due.due("pass(1) from 9999", x.pass(1), -3);
        Due.due("pass(0) at 9999", x.pass(0), 9999);
    }

    public static void main(String[] args) {
        by(RefusalTest::some);
        travellersGatesNations(5);
        hoursWaysSeen(5);
        coming(true);
        rest();
        asked();
        inAnyOrder();
        nothingElse();
        by(RefusalTest::full);
        travellersGatesNations(6);
        hoursWaysSeen(6);
        coming(false);
        by(RefusalTest::empty);
        ofNobody();
        by(RefusalTest::late);
        tooLate();
        Due.end();
    }
}
