import java.lang.reflect.Constructor;
import java.lang.reflect.Field;
import java.lang.reflect.Method;
import java.lang.reflect.Modifier;
import java.nio.file.Files;
import java.nio.file.Path;
import java.util.ArrayList;
import java.util.List;
import java.util.TreeSet;

/** The face of the document, and those rules of LANGUAGE.md that can be seen from outside or from the source's words. */
public final class LanguageTest {
    private static final String[] FACE = {
        "int traveller(int, int, int)", "int of(int, int)", "int welcome(int, int)", "int goal(int, int)", "int put(int, int)",
        "int chart(int, int)", "int gate(int, int)", "int row(int, int, int)", "int feed(int)", "int nation()", "int told(int)",
        "int pass(int)", "int on(int, int)", "int way(int, int, int)", "int straight(int, int)", "int see(int, int, int)",
        "int can(int, int)", "long odds(int, int)", "long mean(int)", "int plan(int, int)", "int ends(int)", "int book(int, int)",
        "int looked()", "int judge(int, int)", "int image()", "int undo()", "int act(int, int, int)", "int trace(int)",
        "int taken(int, int)", "int count(int)", "int tape(int, int, int)", "int item(int, int, long)", "long read(int, int)",
        "int shift(int, int, int, int, int)",
    };

    private static void expect(boolean holds, String what) {
        if (holds) {
            Due.right();
        } else {
            Due.wrong(what);
        }
    }

    private static String signature(Method method) {
        StringBuilder text = new StringBuilder(method.getReturnType().getName()).append(' ').append(method.getName()).append('(');
        for (int i = 0; i < method.getParameterCount(); i++) text.append(i > 0 ? ", " : "").append(method.getParameterTypes()[i].getName());
        return text.append(')').toString();
    }

    private static void face() {
        TreeSet<String> wanted = new TreeSet<>(List.of(FACE));
        TreeSet<String> found = new TreeSet<>();
        TreeSet<String> publicNames = new TreeSet<>();
        for (Method method : RefusalMaps.class.getDeclaredMethods()) {
            if (Modifier.isPublic(method.getModifiers())) {
                found.add(signature(method));
                publicNames.add(method.getName());
                expect(!Modifier.isStatic(method.getModifiers()), method + " is static");
            }
        }
        expect(found.equals(wanted), "the face is " + found);
        for (Method method : RefusalMaps.class.getDeclaredMethods()) {
            boolean isPublic = Modifier.isPublic(method.getModifiers());
            expect(isPublic || Modifier.isPrivate(method.getModifiers()), method + " is neither public nor private");
            expect(isPublic || !publicNames.contains(method.getName()), method + " bears a public one's name");
            expect(method.getExceptionTypes().length == 0, method + " throws");
        }
        Constructor<?>[] constructors = RefusalMaps.class.getDeclaredConstructors();
        expect(constructors.length == 1 && constructors[0].getParameterCount() == 0, "one constructor without parameters");
        expect(Modifier.isPublic(constructors[0].getModifiers()), "the constructor is public");
        int modifiers = RefusalMaps.class.getModifiers();
        expect(Modifier.isPublic(modifiers) && Modifier.isFinal(modifiers), "the class is public and final");
        Due.due("NONE", RefusalMaps.NONE, -1);
        Due.due("BAD", RefusalMaps.BAD, -2);
        Due.due("STATE", RefusalMaps.STATE, -3);
        Due.due("FULL", RefusalMaps.FULL, -4);
        Due.due("NO", RefusalMaps.NO, Long.MIN_VALUE);
        TreeSet<String> constants = new TreeSet<>();
        for (Field field : RefusalMaps.class.getDeclaredFields()) {
            if (Modifier.isPublic(field.getModifiers())) constants.add(field.getName());
            expect(Modifier.isPublic(field.getModifiers()) || Modifier.isPrivate(field.getModifiers()), field + " is neither");
        }
        expect(constants.equals(new TreeSet<>(List.of("NONE", "BAD", "STATE", "FULL", "NO"))), "the constants are " + constants);
    }

    private static boolean isConstant(Class<?> type) {
        return List.of(int.class, long.class, boolean.class, char.class, String.class,
            int[].class, long[].class, char[].class, byte[].class).contains(type);
    }

    /** A number, a truth, a text or an own class, or an array of one dimension of numbers or of an own class. */
    private static boolean isType(Class<?> type) {
        Class<?> item = type.isArray() ? type.getComponentType() : type;
        return item.isPrimitive() || item == String.class && !type.isArray() || item.getEnclosingClass() == RefusalMaps.class;
    }

    private static void classes() {
        List<Class<?>> all = new ArrayList<>();
        all.add(RefusalMaps.class);
        all.addAll(List.of(RefusalMaps.class.getDeclaredClasses()));
        expect(all.size() <= 12, "classes: " + all.size());
        for (Class<?> each : all) {
            int fields = 0;
            for (Field field : each.getDeclaredFields()) {
                boolean isStatic = Modifier.isStatic(field.getModifiers());
                expect(!isStatic || Modifier.isFinal(field.getModifiers()), field + " is static and not final");
                if (!isStatic) fields++;
                expect(isStatic ? isConstant(field.getType()) : isType(field.getType()), field + " is of another type");
            }
            expect(fields <= 20, each + " has " + fields + " fields");
            for (Method method : each.getDeclaredMethods()) {
                expect(method.getParameterCount() <= 7, method + " takes too many");
                expect(isType(method.getReturnType()), method + " answers with another type");
                for (Class<?> type : method.getParameterTypes()) expect(isType(type), method + " takes another type");
            }
            if (each != RefusalMaps.class) {
                expect(Modifier.isStatic(each.getModifiers()) && !Modifier.isPublic(each.getModifiers()), each + " is not static, or public");
                expect(each.getDeclaredClasses().length == 0, each + " has classes inside");
                for (Method method : each.getDeclaredMethods()) {
                    for (String named : FACE) expect(!named.contains(" " + method.getName() + "("), method + " bears a public one's name");
                }
            }
        }
    }

    /** The source without what stands in comments and quotes. */
    static String bare(String source) {
        return source.replaceAll("(?s)/\\*.*?\\*/", " ").replaceAll("//[^\n]*", " ")
            .replaceAll("\"([^\"\\\\\n]|\\\\.)*\"", "\"\"").replaceAll("'([^'\\\\\n]|\\\\.)'", "''");
    }

    private static void words(String source) {
        String bare = bare(source);
        for (String word : new String[] {"throw", "throws", "try", "catch", "synchronized", "assert", "finally", "volatile", "native",
            "import", "package", "System\\.out", "System\\.exit", "currentTimeMillis", "nanoTime", "Random", "Thread", "String\\.format",
            "equals", "hashCode", "toString", "\\w+Exact", "Object", "var", "yield"}) {
            expect(!bare.matches("(?s).*\\b" + word + "\\b.*"), "the source has the word " + word);
        }
        expect(!bare.contains("->"), "the source has an arrow");
        expect(!bare.contains("::"), "the source has a reference to a method");
        expect(!bare.contains("\"\" +") && !bare.contains("+ \"\""), "the source joins texts by +");
        for (char sign : source.toCharArray()) expect(sign < 127, "the source has the sign " + (int) sign);
        TreeSet<String> library = new TreeSet<>();
        java.util.regex.Matcher calls = java.util.regex.Pattern.compile("\\b(System|Math|Integer|Long|Arrays|String)\\.(\\w+)").matcher(bare);
        while (calls.find()) library.add(calls.group());
        library.removeAll(List.of("System.arraycopy", "Math.max", "Math.min", "Integer.bitCount", "Long.MIN_VALUE"));
        expect(library.isEmpty(), "the source uses " + library);
        // Each loop is a for with a bound in its head.
        expect(!bare.matches("(?s).*\\b(while|do)\\b.*"), "the source has a while");
        java.util.regex.Matcher loops = java.util.regex.Pattern.compile("for \\(([^;)]*);([^;]*);").matcher(bare);
        while (loops.find()) expect(loops.group(2).contains("<"), "a loop without a bound: " + loops.group());
    }

    private static void lengths(String source) {
        String start = null;
        int lines = 0;
        for (String line : source.split("\n")) {
            boolean isHead = line.matches("( {4}| {8})[a-zA-Z].*\\) \\{") && !line.matches(" *(for|if|switch|while) .*");
            if (isHead) {
                start = line;
                lines = 0;
            }
            lines++;
            if (start != null && line.equals(start.replaceAll("\\S.*", "") + "}")) {
                expect(lines <= 60, start.trim() + " has " + lines + " lines");
                start = null;
            }
        }
    }

    public static void main(String[] args) throws Exception {
        String source = Files.readString(Path.of(args.length > 0 ? args[0] : "src/main/java/RefusalMaps.java"));
        face();
        classes();
        words(source);
        lengths(source);
        Due.end();
    }
}
