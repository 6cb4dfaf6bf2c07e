import java.io.IOException;
import java.lang.reflect.Field;
import java.lang.reflect.Method;
import java.lang.reflect.Modifier;
import java.nio.charset.StandardCharsets;
import java.nio.file.Files;
import java.nio.file.Path;
import java.util.ArrayList;
import java.util.LinkedHashMap;
import java.util.List;
import java.util.Map;
import java.util.Set;
import java.util.TreeSet;
import java.util.regex.Matcher;
import java.util.regex.Pattern;

/** The rules of LANGUAGE.md that can be seen in the program's lines and classes. */
public final class FormTest {
    private static final Path PROGRAM = Path.of("src", "main", "java", "PaletteHouse.java");
    private static final int CLASSES_MOST = 12;
    private static final int FIELDS_MOST = 20;
    private static final int PARAMETERS_MOST = 7;
    private static final int LINES_MOST = 60;
    private static final int DEPTH_MOST = 8;
    private static final Set<String> NEVER = Set.of("throw", "throws", "try", "catch", "finally", "synchronized",
        "assert", "package", "native", "volatile", "transient", "strictfp", "Object", "Thread", "Random", "Exception",
        "hashCode", "equals", "toString", "getClass", "Runtime", "Class");
    private static final Set<String> IMPORTS = Set.of("java.util.Arrays", "java.util.ArrayList", "java.util.List");
    private static final Set<String> LIBRARY = Set.of("Arrays.fill", "Arrays.copyOf", "Arrays.copyOfRange",
        "System.arraycopy", "Math.min", "Math.max", "Math.abs", "Math.floorMod", "Math.floorDiv", "Integer.bitCount",
        "Integer.compare", "Long.bitCount", "Long.compare", "List.of");
    private static final Set<Class<?>> CONSTANTS = Set.of(int.class, long.class, boolean.class, char.class,
        String.class, int[].class, long[].class, char[].class, byte[].class);

    private static final Check CHECK = new Check();

    private FormTest() {
    }

    public static void main(String[] args) throws IOException {
        String text = Files.readString(PROGRAM, StandardCharsets.ISO_8859_1);
        String bare = withoutRemarks(text);
        words(bare);
        library(bare);
        classes();
        Map<String, String> bodies = bodies(bare);
        lengths(bodies);
        depths(bodies);
        CHECK.end("FormTest");
    }

    /** Remarks and what stands in quotes are no program; lines stay lines. */
    private static String withoutRemarks(String text) {
        String bare = Pattern.compile("/\\*.*?\\*/", Pattern.DOTALL).matcher(text).replaceAll("");
        bare = bare.replaceAll("//[^\n]*", "");
        bare = bare.replaceAll("\"[^\"\n]*\"", "\"\"");
        return bare.replaceAll("'[^'\n]*'", "0");
    }

    private static void words(String bare) {
        Matcher word = Pattern.compile("[A-Za-z]+").matcher(bare);
        while (word.find()) {
            CHECK.due("the word " + word.group(), NEVER.contains(word.group()), false);
        }
        CHECK.due("no lambda", bare.contains("->"), false);
        CHECK.due("no method reference", bare.contains("::"), false);
        CHECK.due("no static block", Pattern.compile("static\\s*\\{").matcher(bare).find(), false);
        CHECK.due("no anonymous class", Pattern.compile("new\\s+\\w+\\([^()]*\\)\\s*\\{").matcher(bare).find(), false);
        CHECK.due("no endless loop", Pattern.compile("while\\s*\\(true\\)|for\\s*\\(;").matcher(bare).find(), false);
        CHECK.due("no joining of texts by +", Pattern.compile("\"\"\\s*\\+|\\+\\s*\"\"").matcher(bare).find(), false);
    }

    private static void library(String bare) {
        Matcher brought = Pattern.compile("import\\s+([\\w.*]+);").matcher(bare);
        while (brought.find()) {
            CHECK.due("import " + brought.group(1), IMPORTS.contains(brought.group(1)), true);
        }
        Matcher call = Pattern.compile("\\b(Arrays|System|Math|Integer|Long|List|Character|Byte|Short)\\.(\\w+)").matcher(bare);
        while (call.find()) {
            CHECK.due(call.group(), LIBRARY.contains(call.group()), true);
        }
    }

    private static void classes() {
        List<Class<?>> all = new ArrayList<>(List.of(PaletteHouse.class.getDeclaredClasses()));
        all.add(PaletteHouse.class);
        CHECK.due("so many classes " + all.size(), all.size() <= CLASSES_MOST, true);
        Set<String> face = new TreeSet<>();
        for (Method method : PaletteHouse.class.getMethods()) {
            face.add(method.getName());
        }
        for (Class<?> one : all) {
            fields(one);
            for (Method method : one.getDeclaredMethods()) {
                String name = one.getSimpleName() + "." + method.getName();
                CHECK.due(name + " takes seven at most", method.getParameterCount() <= PARAMETERS_MOST, true);
                boolean own = one == PaletteHouse.class || !face.contains(method.getName());
                CHECK.due(name + " bears no name of the face", own, true);
            }
        }
    }

    private static void fields(Class<?> one) {
        int held = 0;
        for (Field field : one.getDeclaredFields()) {
            String name = one.getSimpleName() + "." + field.getName();
            if (Modifier.isStatic(field.getModifiers())) {
                CHECK.due(name + " is final", Modifier.isFinal(field.getModifiers()), true);
                CHECK.due(name + " is a constant", CONSTANTS.contains(field.getType()), true);
            } else {
                held++;
            }
        }
        CHECK.due(one.getSimpleName() + " has so many fields " + held, held <= FIELDS_MOST, true);
    }

    /** By class and name the lines of each method, of all that bear the name; the code is indented by fours. */
    private static Map<String, String> bodies(String bare) {
        Map<String, String> bodies = new LinkedHashMap<>();
        Pattern head = Pattern.compile("( {4}| {8})(?:(?:public|private|static|final) )*(?:[\\w\\[\\]]+ )?(\\w+)\\(.*\\) \\{");
        Pattern inner = Pattern.compile(" {4}(?:private |static |final )+class (\\w+) \\{");
        String owner = "PaletteHouse";
        String open = null;
        String close = null;
        for (String line : bare.split("\n")) {
            Matcher method = head.matcher(line);
            Matcher nested = inner.matcher(line);
            if (open == null && nested.matches()) {
                owner = nested.group(1);
            } else if (open == null && method.matches()) {
                open = owner + "." + method.group(2);
                close = method.group(1) + "}";
                bodies.put(open, bodies.getOrDefault(open, ""));
            } else if (open != null && line.equals(close)) {
                open = null;
            } else if (open != null) {
                bodies.put(open, bodies.get(open) + line + "\n");
            } else if (line.equals("    }")) {
                owner = "PaletteHouse";
            }
        }
        CHECK.due("the methods are found", bodies.containsKey("PaletteHouse.read") && bodies.containsKey("Table.at")
            && bodies.containsKey("Machine.obey"), true);
        return bodies;
    }

    private static void lengths(Map<String, String> bodies) {
        for (Map.Entry<String, String> body : bodies.entrySet()) {
            int lines = body.getValue().split("\n").length;
            CHECK.due(body.getKey() + " is short: " + lines, lines <= LINES_MOST, true);
        }
    }

    private static void depths(Map<String, String> bodies) {
        for (String method : bodies.keySet()) {
            int depth = depth(method, bodies, new ArrayList<>());
            CHECK.due(method + " goes so deep " + depth, depth <= DEPTH_MOST, true);
        }
    }

    /** How many methods stand open at once, this one too; a method that comes back to itself is far too deep. */
    private static int depth(String method, Map<String, String> bodies, List<String> above) {
        if (above.contains(method)) {
            return 1000;
        }
        above.add(method);
        int below = 0;
        for (String called : called(method, bodies)) {
            below = Math.max(below, depth(called, bodies, above));
        }
        above.remove(above.size() - 1);
        return below + 1;
    }

    /** A call without a dot is of the same class; one behind a dot of any other class that has the name, if one has. */
    private static Set<String> called(String method, Map<String, String> bodies) {
        String owner = method.substring(0, method.indexOf('.'));
        Set<String> called = new TreeSet<>();
        Matcher call = Pattern.compile("(\\.|\\bnew )?\\b(\\w+)\\(").matcher(bodies.get(method));
        while (call.find()) {
            String name = call.group(2);
            if (call.group(1) == null) {
                called.add(owner + "." + name);
            } else if (call.group(1).equals(".")) {
                called.addAll(others(owner, name, bodies));
            } else {
                called.add(name + "." + name);
            }
        }
        called.retainAll(bodies.keySet());
        return called;
    }

    private static Set<String> others(String owner, String name, Map<String, String> bodies) {
        Set<String> others = new TreeSet<>();
        for (String other : bodies.keySet()) {
            if (other.endsWith("." + name) && !other.startsWith("PaletteHouse.")) {
                others.add(other);
            }
        }
        if (others.size() > 1) {
            others.remove(owner + "." + name);
        }
        return others;
    }
}
