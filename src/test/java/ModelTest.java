import java.lang.reflect.Method;
import java.util.Arrays;
import java.util.Comparator;

/** Runs of 512 calls, many and of all kinds, each answer compared with that of the Model. */
public final class ModelTest {
    private static final String[] ROUTES = {
        "fade 3", "fade 1;open 2 k=4", "shut 3 c=5|c=6&h<5", "open 2 p<3;shut 4 !(g>2)&h>3;fade 4",
        "shut 9 (c=9|c=10)&!v>4;open 99 g=0&p=1", "shut 2 c>3&c<8;shut 2 h=3;open 1 v>3;fade 0", "open 1 !!!!p=0",
        "fade 2;fade 7;shut 3 ((((c=6))))", "shut 12 c=1|c=4;open 3 k>2|k<1&g<9", "shut 5 h>4", "fade 12;shut 3 c=2|c=9",
        "shut 3 k=1&(c=5|c=6|c=9|c=10);shut 3 k=2&c>11;fade 6",
    };
    private static final String SIGNS = "openshutfade 0123456789pkvcgh<=>()!&|;;  x";

    private static long seed;

    private static int random(int below) {
        seed = seed * 6364136223846793005L + 1442695040888963407L;
        return (int) ((seed >>> 33) % below);
    }

    private static int number(String name, int i) {
        int luck = random(40);
        if (luck == 0) return new int[] {Integer.MIN_VALUE, Integer.MAX_VALUE, -2, 65536, 100, 41, 16, -1000}[random(8)];
        if (luck == 1) return -1;
        switch (name + i) {
            case "traveller0": return random(7);
            case "traveller1": return random(10);
            case "traveller2": case "welcome1": case "goal1": case "put1": case "way1": case "straight1": case "see2": return random(16);
            case "gate0": return random(16);
            case "gate1": return random(3) == 0 ? random(10) : random(4);
            case "of1": return random(11);
            case "chart1": case "book1": return random(2) == 0 ? 1 << random(16) | 1 << random(16) : random(65536) & random(65536);
            case "row1": return random(4);
            case "row2": return random(10);
            case "told0": return random(28);
            case "pass0": return random(4) == 0 ? random(41) : random(4);
            case "on0": return random(41);
            case "on1": return 10 + 10 * random(3) + random(6);
            case "way2": return random(16) - 1;
            case "see1": return random(13);
            case "plan0": return random(5) == 0 ? 1 + random(3) : 0;
            case "plan1": return 10 * random(6) + random(6);
            case "act2": return random(3) == 0 ? random(Integer.MAX_VALUE) : random(50);
            case "feed0": return SIGNS.charAt(random(SIGNS.length()));
            case "tape1": return random(5);
            case "tape2": return random(61);
            case "judge1": case "item1": case "read1": return random(20);
            case "shift1": case "shift3": case "shift4": return random(15);
            default: return random(6);
        }
    }

    private static Object argument(String name, int i, Class<?> type) {
        int number = number(name, i);
        if (type == int.class) return number;
        return random(3) == 0 ? (long) number : random(4) == 0 ? (long) random(Integer.MAX_VALUE) << 20 : (long) random(4);
    }

    /** Calls both, and says whether they answered alike. */
    private static boolean alike(RefusalMaps x, Model m, String name, Object... arguments) throws Exception {
        for (Method method : RefusalMaps.class.getMethods()) {
            if (!method.getName().equals(name) || method.getDeclaringClass() != RefusalMaps.class) continue;
            long got = ((Number) method.invoke(x, arguments)).longValue();
            long want = ((Number) Model.class.getMethod(name, method.getParameterTypes()).invoke(m, arguments)).longValue();
            if (got == want) {
                Due.right();
                return true;
            }
            Due.wrong(name + Arrays.toString(arguments) + " answered " + got + ", the model says " + want);
            return false;
        }
        Due.wrong("no method " + name);
        return false;
    }

    private static boolean feedBoth(RefusalMaps x, Model m, String text) throws Exception {
        for (char sign : text.toCharArray()) {
            if (!alike(x, m, "feed", (int) sign)) return false;
        }
        return alike(x, m, "nation");
    }

    private static String someText() {
        String text = ROUTES[random(ROUTES.length)];
        if (random(3) == 0) {
            int place = random(text.length());
            text = text.substring(0, place) + SIGNS.charAt(random(SIGNS.length())) + text.substring(place + random(2));
        }
        return text;
    }

    /** One run; it ends early where an answer is wrong, since what follows would be, too. */
    private static void run(int number, Method[] methods) throws Exception {
        seed = number * 7919L + 17;
        RefusalMaps x = new RefusalMaps();
        Model m = new Model();
        int calls = 0;
        int crowd = random(7);
        for (int i = 0; i < crowd; i++, calls += 2) {
            if (!alike(x, m, "traveller", random(7), random(10), random(16))) return;
            if (!alike(x, m, "goal", i, random(16))) return;
        }
        for (int i = random(10); i > 0; i--, calls++) {
            if (!alike(x, m, "gate", random(16), random(4))) return;
        }
        while (calls < 512) {
            if (random(60) == 0) {
                String text = someText();
                if (calls + text.length() + 1 > 512) return;
                calls += text.length() + 1;
                if (!feedBoth(x, m, text)) {
                    Due.wrong("  in run " + number + " with the text " + text);
                    return;
                }
                continue;
            }
            Method method = methods[random(methods.length)];
            String name = method.getName();
            if ((name.equals("undo") || name.equals("feed") || name.equals("nation")) && random(5) != 0) continue;
            if ((name.equals("see") || name.equals("goal")) && random(2) != 0) continue;
            Object[] arguments = new Object[method.getParameterCount()];
            for (int i = 0; i < arguments.length; i++) arguments[i] = argument(name, i, method.getParameterTypes()[i]);
            // What is seen at random is seldom so: often it is told as it will be.
            if (name.equals("see") && random(3) != 0 && x.count(0) > 0) {
                int one = random(x.count(0));
                int n = random(13);
                arguments = new Object[] {one, n, m.on(n, 10 + one)};
            }
            calls++;
            if (!alike(x, m, name, arguments)) {
                Due.wrong("  in run " + number + ", call " + calls);
                return;
            }
        }
    }

    /** Texts near to nations: each read by both, on new objects. */
    private static void texts() throws Exception {
        String[] parts = {"open ", "shut ", "fade ", "1", "23", "456", " ", "p=1", "k<2", "v>33", "c=999", "h", "g>", "(", ")", "!", "&", "|", ";"};
        for (int i = 0; i < 1500; i++) {
            seed = i * 104729L + 3;
            StringBuilder text = new StringBuilder(i % 3 == 0 ? someText() : i % 3 == 1 ? "open 1 " : "");
            for (int n = random(8); n > 0; n--) text.append(parts[random(parts.length)]);
            if (text.length() > 100) text.setLength(100);
            Model m = new Model();
            RefusalMaps x = new RefusalMaps();
            m.text.append(text);
            long got = Due.nation(x, text.toString());
            long want = m.nation();
            Due.due("nation() of \"" + text + "\"", got, want);
        }
    }

    public static void main(String[] args) throws Exception {
        Method[] methods = Arrays.stream(RefusalMaps.class.getMethods())
            .filter(each -> each.getDeclaringClass() == RefusalMaps.class)
            .sorted(Comparator.comparing(Method::getName))
            .toArray(Method[]::new);
        texts();
        for (int number = 0; number < 400; number++) run(number, methods);
        Due.end();
    }
}
