import java.nio.file.Files;
import java.nio.file.Path;
import java.util.ArrayList;
import java.util.LinkedHashSet;
import java.util.List;
import java.util.Map;
import java.util.Set;
import java.util.TreeMap;
import java.util.TreeSet;
import java.util.regex.Matcher;
import java.util.regex.Pattern;

/**
 * Rules 8 and 11 of LANGUAGE.md, by who calls whom in the source: calls that are no recursion go at most eight
 * deep, the library's counted too, and each function that can come back to itself takes its depth along.
 */
public final class CallsTest {
    private static final int MOST_DEEP = 8;
    private static final String OUTER = "RefusalMaps";
    private static final Set<String> LIBRARY = Set.of("String", "Integer", "Long", "Math", "System");
    private static final Set<String> NO_CALLS = Set.of("if", "for", "switch", "while", "return");
    private static final Pattern CLASS = Pattern.compile(" {4}private static final class (\\w+) \\{");
    private static final Pattern HEAD = Pattern.compile("( {4}| {8})(?:\\w+ )*(?:[\\w\\[\\]]+ )?(\\w+)\\(([^()]*)\\) \\{");
    private static final Pattern CALL = Pattern.compile("(new )?(?:(\\w+|\\))(?:\\[[^\\]]*\\])?\\.)?\\b(\\w+)\\(");

    /** Of each function, told as class.name, what it takes and whom it calls. */
    private static final Map<String, String> TAKES = new TreeMap<>();
    private static final Map<String, Set<String>> CALLS = new TreeMap<>();
    private static final Map<String, Set<String>> TYPES = new TreeMap<>();

    private static void readTypes(String bare, Set<String> classes) {
        Set<String> known = new TreeSet<>(classes);
        known.addAll(LIBRARY);
        Matcher told = Pattern.compile("\\b(\\w+)(?:\\[\\])? (\\w+)\\b(?=\\s*[;=,)])").matcher(bare);
        while (told.find()) {
            if (known.contains(told.group(1))) {
                TYPES.computeIfAbsent(told.group(2), name -> new TreeSet<>()).add(told.group(1));
            }
        }
        for (String name : known) {
            TYPES.put(name, Set.of(name));
        }
    }

    private static Set<String> callsIn(String line, String own) {
        Set<String> calls = new LinkedHashSet<>();
        Matcher call = CALL.matcher(line);
        while (call.find()) {
            String receiver = call.group(2);
            String name = call.group(3);
            if (call.group(1) != null) {
                calls.add(name + "." + name);
            } else if (receiver != null) {
                Set<String> types = TYPES.getOrDefault(receiver, Set.of());
                if (types.isEmpty()) Due.wrong("whose " + name + " is called can't be told: " + line.trim());
                for (String type : types) calls.add(type + "." + name);
            } else if (!NO_CALLS.contains(name)) {
                calls.add(own + "." + name);
            }
        }
        return calls;
    }

    private static void read(String bare) {
        Set<String> classes = new TreeSet<>(Set.of(OUTER));
        Matcher inside = CLASS.matcher(bare);
        while (inside.find()) classes.add(inside.group(1));
        readTypes(bare, classes);
        String own = OUTER;
        String function = null;
        String end = null;
        for (String line : bare.split("\n")) {
            Matcher head = HEAD.matcher(line);
            if (CLASS.matcher(line).matches()) {
                own = CLASS.matcher(line).replaceAll("$1");
            } else if (function == null && head.matches()) {
                function = own + "." + head.group(2);
                end = head.group(1) + "}";
                if (TAKES.put(function, head.group(3)) != null) Due.wrong(function + " is there twice");
                CALLS.put(function, new LinkedHashSet<>());
            } else if (function != null && line.equals(end)) {
                function = null;
            } else if (line.equals("    }")) {
                own = OUTER;
            } else if (function != null) {
                CALLS.get(function).addAll(callsIn(line, own));
            } else if (line.contains("(") && !line.contains(" = new ")) {
                Due.wrong("a line with a call stands in no function: " + line.trim());
            }
        }
    }

    /** The longest row of calls from a function on in which none stands twice. */
    private static List<String> longest(String function, List<String> ahead) {
        List<String> row = new ArrayList<>(ahead);
        row.add(function);
        List<String> longest = row;
        for (String called : CALLS.getOrDefault(function, Set.of())) {
            if (row.contains(called)) continue;
            List<String> longer = longest(called, row);
            if (longer.size() > longest.size()) longest = longer;
        }
        return longest;
    }

    private static boolean comesTo(String from, String to, Set<String> met) {
        for (String called : CALLS.getOrDefault(from, Set.of())) {
            if (called.equals(to) || met.add(called) && comesTo(called, to, met)) return true;
        }
        return false;
    }

    private static void allAreThere() {
        for (Map.Entry<String, Set<String>> function : CALLS.entrySet()) {
            for (String called : function.getValue()) {
                boolean known = CALLS.containsKey(called) || LIBRARY.contains(called.substring(0, called.indexOf('.')));
                if (known) Due.right(); else Due.wrong(function.getKey() + " calls " + called + ", which is not found");
            }
        }
    }

    private static void depths() {
        int most = 0;
        for (String function : CALLS.keySet()) {
            List<String> row = longest(function, List.of());
            most = Math.max(most, row.size());
            if (row.size() <= MOST_DEEP) Due.right(); else Due.wrong("calls go " + row.size() + " deep: " + row);
        }
        // Were the source read wrongly, few calls would be found.
        Due.due("the deepest calls", most, MOST_DEEP);
    }

    private static void recursion() {
        Set<String> found = new TreeSet<>();
        for (String function : CALLS.keySet()) {
            if (!comesTo(function, function, new TreeSet<>())) continue;
            found.add(function);
            boolean guarded = TAKES.get(function).matches(".*\\bint (within|deep)\\b.*");
            if (guarded) Due.right(); else Due.wrong(function + " comes back to itself and takes no depth");
        }
        Set<String> known = Set.of("Acts.run", "Reader.parseEither", "Reader.parseSingle");
        if (found.equals(known)) Due.right(); else Due.wrong("recursion: " + found);
    }

    public static void main(String[] args) throws Exception {
        read(LanguageTest.bare(Files.readString(Path.of(args.length > 0 ? args[0] : "src/main/java/RefusalMaps.java"))));
        allAreThere();
        depths();
        recursion();
        Due.end();
    }
}
