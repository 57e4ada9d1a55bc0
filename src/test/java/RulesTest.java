import java.io.IOException;
import java.io.PrintWriter;
import java.io.StringWriter;
import java.lang.reflect.Array;
import java.lang.reflect.Constructor;
import java.lang.reflect.Field;
import java.lang.reflect.Method;
import java.lang.reflect.Modifier;
import java.nio.file.Files;
import java.nio.file.Path;
import java.util.ArrayDeque;
import java.util.ArrayList;
import java.util.Collections;
import java.util.Deque;
import java.util.IdentityHashMap;
import java.util.List;
import java.util.Map;
import java.util.Set;
import java.util.TreeMap;
import java.util.TreeSet;
import java.util.regex.Matcher;
import java.util.regex.Pattern;
import java.util.spi.ToolProvider;

/** What of ../shared/LANGUAGE.md can be seen in the text, in the compiled class, and in a new object. */
public final class RulesTest {
    private static final List<String> IMPORTS = List.of("java.util.ArrayList", "java.util.Arrays",
            "java.util.NoSuchElementException");
    private static final List<String> BANNED = List.of("->", "::", "\\bsynchronized\\b", "\\bassert\\b", "\\bfinally\\b",
            "\\bcatch\\b", "\\btry\\b", "\\bgetMessage\\b", "\\bSystem\\.(?!arraycopy)", "\\bThread\\b", "\\bRandom\\b",
            "\\bjava\\.(?!util\\.(ArrayList|Arrays|NoSuchElementException);)", "Exact\\b", "\\bMath\\.(?!min|max)",
            "\\bstatic\\s*\\{", "\\bvar\\b", "\\bhashCode\\b", "\\btoString\\b", "\\bequals\\b", "\\bclass \\w+ extends\\b");

    public static void main(String[] args) throws IOException {
        String source = withoutComments(Files.readString(Path.of("src/main/java/Levelsmith.java")));
        text(source);
        methodsAreShort(source);
        face(Files.readString(Path.of("../shared/DOC.md")));
        headsAreAsListed(source, Files.readString(Path.of("../shared/DOC.md")));
        callsAreShallow();
        members();
        statics(Levelsmith.class);
        for (Class<?> inside : Levelsmith.class.getDeclaredClasses()) {
            statics(inside);
            Check.same("rule 1: " + inside + " is static", true, Modifier.isStatic(inside.getModifiers()));
            Check.same("rule 1: " + inside + " is not public", false, Modifier.isPublic(inside.getModifiers()));
        }
        Check.same("rule 11: classes", true, allClasses().size() <= 12);
        room();
        Check.end("RulesTest");
    }

    private static String withoutComments(String source) {
        return source.replaceAll("(?s)/\\*.*?\\*/", "").replaceAll("//[^\n]*", "");
    }

    private static void text(String source) {
        Matcher imports = Pattern.compile("import ([\\w.*]+);").matcher(source);
        while (imports.find()) {
            Check.same("rule 4: import of " + imports.group(1), true, IMPORTS.contains(imports.group(1)));
        }
        for (String banned : BANNED) {
            Matcher found = Pattern.compile(banned).matcher(source);
            Check.same("rules 4 to 7: the text has " + banned, false, found.find());
        }
        Check.same("rule 4: signs of 1 to 127", true, source.chars().allMatch(sign -> sign > 0 && sign < 128));
    }

    private static void methodsAreShort(String source) {
        String[] lines = source.split("\n");
        int methods = 0;
        for (int first = 0; first < lines.length; first++) {
            Matcher head = Pattern.compile("( {4}| {8})[^ ].*[)\\w] \\{").matcher(lines[first]);
            if (head.matches() && !lines[first].contains(" class ")) {
                int last = first;
                while (last < lines.length && !lines[last].equals(head.group(1) + "}")) {
                    last++;
                }
                methods++;
                Check.same("rule 11: a short method at line " + first, true, last - first <= 60);
            }
        }
        Check.same("rule 11: methods were found", true, methods > 100);
        for (Class<?> type : allClasses()) {
            for (Method method : type.getDeclaredMethods()) {
                Check.same("rule 11: parameters of " + method, true, method.getParameterCount() <= 7);
            }
            long fields = List.of(type.getDeclaredFields()).stream()
                    .filter(field -> !Modifier.isStatic(field.getModifiers())).count();
            Check.same("rule 11: fields of " + type, true, fields <= 20);
        }
    }

    private static List<Class<?>> allClasses() {
        List<Class<?>> all = new ArrayList<>(List.of(Levelsmith.class.getDeclaredClasses()));
        all.add(Levelsmith.class);
        return all;
    }

    /** The public members must be those of the document, letter by letter. */
    private static void face(String document) {
        Set<String> due = new TreeSet<>();
        Matcher lines = Pattern.compile("(?m)^    public ([^;]+);$").matcher(document);
        while (lines.find()) {
            due.add(lines.group(1).replaceAll("\\b(int|char) \\w+([,)])", "$1$2"));
        }
        Set<String> got = new TreeSet<>();
        for (Constructor<?> constructor : Levelsmith.class.getConstructors()) {
            got.add("Levelsmith" + parameters(constructor.getParameterTypes()));
        }
        for (Method method : Levelsmith.class.getDeclaredMethods()) {
            if (Modifier.isPublic(method.getModifiers())) {
                got.add(method.getReturnType().getSimpleName() + " " + method.getName()
                        + parameters(method.getParameterTypes()) + exceptions(method.getExceptionTypes()));
            }
        }
        Check.same("rule 1: 47 calls", 47, due.size());
        Check.same("rule 1: the face", due, got);
        Check.same("rule 1: final", true, Modifier.isFinal(Levelsmith.class.getModifiers()));
        Check.same("rule 1: no public constants", 0, Levelsmith.class.getFields().length);
    }

    /** The public heads must stand in the order of the document, with its names. */
    private static void headsAreAsListed(String source, String document) {
        String due = heads(document, "(?m)^    public ([^;{]+);");
        Check.same("the heads of the face", due, heads(source, "(?m)^    public ([^;={]+)\\{"));
    }

    private static String heads(String text, String pattern) {
        StringBuilder heads = new StringBuilder();
        Matcher head = Pattern.compile(pattern).matcher(text);
        while (head.find()) {
            heads.append(head.group(1).trim().replaceAll("\\s+", " ")).append('\n');
        }
        return heads.toString();
    }

    /** Calls among the methods, by what javap tells of them, stand at most eight deep. */
    private static void callsAreShallow() {
        Map<String, Set<String>> calls = new TreeMap<>();
        for (Class<?> type : allClasses()) {
            noteCalls(type.getName(), calls);
        }
        int deepest = 0;
        for (String method : calls.keySet()) {
            deepest = Math.max(deepest, depth(method, calls, 0));
        }
        Check.same("rule 11: calls were found", true, deepest > 3);
        Check.same("rule 11: calls " + deepest + " deep", true, deepest <= 8);
    }

    private static void noteCalls(String type, Map<String, Set<String>> calls) {
        StringWriter told = new StringWriter();
        PrintWriter writer = new PrintWriter(told);
        ToolProvider javap = ToolProvider.findFirst("javap").orElseThrow();
        javap.run(writer, writer, "-c", "-p", "-cp", System.getProperty("java.class.path"), type);
        Set<String> called = new TreeSet<>();
        for (String line : told.toString().split("\n")) {
            Matcher head = Pattern.compile("  .*?([\\w$]+)\\(.*;").matcher(line);
            Matcher call = Pattern.compile(".*// Method (Levelsmith[\\w$]*\\.)?\"?([\\w<>]+)\"?:.*").matcher(line);
            if (line.startsWith("  ") && !line.startsWith("   ") && head.matches()) {
                called = new TreeSet<>();
                String name = head.group(1).equals(type) ? "<init>" : head.group(1);
                calls.put(type + "." + name, called);
            } else if (call.matches()) {
                called.add((call.group(1) == null ? type + "." : call.group(1)) + call.group(2));
            }
        }
    }

    private static int depth(String method, Map<String, Set<String>> calls, int open) {
        int deepest = 0;
        for (String called : calls.getOrDefault(method, Set.of())) {
            // A call that goes round would go on without an end.
            if (open < 40 && calls.containsKey(called)) {
                deepest = Math.max(deepest, depth(called, calls, open + 1));
            }
        }
        return deepest + 1;
    }

    private static String parameters(Class<?>[] types) {
        List<String> names = new ArrayList<>();
        for (Class<?> type : types) {
            names.add(type.getSimpleName());
        }
        return "(" + String.join(", ", names) + ")";
    }

    private static String exceptions(Class<?>[] types) {
        String names = parameters(types);
        return types.length == 0 ? "" : " throws " + names.substring(1, names.length() - 1);
    }

    private static void members() {
        Set<String> names = new TreeSet<>();
        for (Method method : Levelsmith.class.getDeclaredMethods()) {
            if (Modifier.isPublic(method.getModifiers())) {
                names.add(method.getName());
            } else {
                Check.same("rule 1: private " + method, true, Modifier.isPrivate(method.getModifiers()));
            }
        }
        for (Field field : Levelsmith.class.getDeclaredFields()) {
            Check.same("rule 1: private " + field, true, Modifier.isPrivate(field.getModifiers()));
        }
        for (Class<?> type : allClasses()) {
            for (Method method : type.getDeclaredMethods()) {
                boolean isOfFace = type == Levelsmith.class && Modifier.isPublic(method.getModifiers());
                Check.same("rule 1: the name of " + method, isOfFace, names.contains(method.getName()));
            }
        }
    }

    private static void statics(Class<?> type) {
        for (Field field : type.getDeclaredFields()) {
            if (Modifier.isStatic(field.getModifiers())) {
                Check.same("rule 5: " + field, true, Modifier.isFinal(field.getModifiers())
                        && (field.getType().isPrimitive() || field.getType() == String.class));
            }
        }
    }

    /** Counts what one object and its dearest calls take of the room of a run, elements and fields in all. */
    private static void room() {
        Levelsmith house = new Levelsmith();
        for (int level = 0; level < 5; level++) {
            house.level(12, 8, '.');
            house.grow(level, level);
            house.put(level, 1, 0, 'k');
            house.guard(level, 0, 6, 0);
        }
        for (int call = 0; call < 20; call++) {
            house.put(call % 5, 6, call % 7, 'E');
            house.isWinnableWith(call % 5, 's');
            house.softLocks(call % 5);
            house.play(call % 5);
            house.save(call % 6);
        }
        long[] taken = {0, 0};
        count(house, taken);
        Check.same("room: objects " + taken[0], true, taken[0] < 200);
        Check.same("room: fields and elements " + taken[1], true, taken[1] < 450000);
    }

    private static void count(Levelsmith house, long[] taken) {
        Set<Object> seen = Collections.newSetFromMap(new IdentityHashMap<>());
        Deque<Object> row = new ArrayDeque<>(List.of(house));
        while (!row.isEmpty()) {
            Object object = row.poll();
            if (!seen.add(object)) {
                continue;
            }
            taken[0]++;
            if (object.getClass().isArray()) {
                taken[1] += Array.getLength(object);
                for (int i = 0; object instanceof Object[] && i < Array.getLength(object); i++) {
                    addIfThere(row, Array.get(object, i));
                }
            } else if (object instanceof List<?> list) {
                list.forEach(part -> addIfThere(row, part));
            } else {
                countFields(object, row, taken);
            }
        }
    }

    private static void countFields(Object object, Deque<Object> row, long[] taken) {
        for (Field field : object.getClass().getDeclaredFields()) {
            if (!Modifier.isStatic(field.getModifiers())) {
                taken[1]++;
                try {
                    field.setAccessible(true);
                    Object part = field.get(object);
                    if (!field.getType().isPrimitive() && field.getType() != String.class) {
                        addIfThere(row, part);
                    }
                } catch (IllegalAccessException e) {
                    throw new AssertionError(e);
                }
            }
        }
    }

    private static void addIfThere(Deque<Object> row, Object part) {
        if (part != null) {
            row.add(part);
        }
    }
}
