import java.io.IOException;
import java.lang.reflect.Constructor;
import java.lang.reflect.Field;
import java.lang.reflect.Method;
import java.lang.reflect.Modifier;
import java.nio.file.Files;
import java.nio.file.Path;
import java.util.ArrayList;
import java.util.HashMap;
import java.util.HashSet;
import java.util.List;
import java.util.Map;
import java.util.Set;
import java.util.TreeSet;
import java.util.regex.Matcher;
import java.util.regex.Pattern;

/** The public face, and those rules of LANGUAGE.md that can be seen without understanding the program. */
public final class LanguageTest {
    private static final Path SOURCE = Path.of("src/main/java/ElevatorLedger.java");
    private static final String[] FACE = {"table()int", "column(int,int)int", "row(int)int", "put(int,int,int,long)int",
        "missing(int,int,int)int", "value(int,int,int)long", "look(int,int,long)int", "drop(int,int)int",
        "say(long,int)int", "question()int", "fault()int", "constantOf(int,int,int)long", "constant(int,int,long)int",
        "about(int,int)int", "ask(int)int", "scan(int)int", "outcome(int,int)int", "cell(int,int,int)long",
        "isMissing(int,int,int)int", "form(int,int)int", "spoil(int,int)int", "retired(int)int", "count(int)int",
        "audit()int"};
    private static final String[] CONSTANTS = {"BAD", "STATE", "FULL", "FAILED", "TOO_MANY", "GONE", "NONE", "NO"};
    private static final String[] FORBIDDEN = {"throw", "throws", "try", "catch", "finally", "synchronized", "assert",
        "volatile", "native", "Exact", "Double", "Float", "Object", "Thread", "Runtime", "Exception", "random", "nanoTime",
        "currentTimeMillis", "hashCode", "toString", "getClass"};

    public static void main(String[] args) throws IOException {
        face();
        classes();
        String code = Files.readString(SOURCE).replaceAll("(?s)/\\*.*?\\*/", "").replaceAll("//[^\n]*", "");
        words(code);
        methods(code);
        Due.end();
    }

    private static void face() {
        Set<String> due = new TreeSet<>(List.of(FACE));
        Set<String> names = new HashSet<>();
        Set<String> got = new TreeSet<>();
        for (Method method : ElevatorLedger.class.getDeclaredMethods()) {
            if (!Modifier.isPrivate(method.getModifiers())) {
                Due.holds(method + " is public alone", method.getModifiers() == Modifier.PUBLIC);
                StringBuilder told = new StringBuilder();
                for (Class<?> type : method.getParameterTypes()) {
                    told.append(told.length() == 0 ? "" : ",").append(type.getName());
                }
                got.add(method.getName() + "(" + told + ")" + method.getReturnType().getName());
                names.add(method.getName());
            }
        }
        Due.holds("the methods are " + got, got.equals(due));
        Due.holds("the class is public and final",
                ElevatorLedger.class.getModifiers() == (Modifier.PUBLIC | Modifier.FINAL));
        Constructor<?>[] constructors = ElevatorLedger.class.getDeclaredConstructors();
        Due.holds("one public constructor", constructors.length == 1
                && Modifier.isPublic(constructors[0].getModifiers()) && constructors[0].getParameterCount() == 0);
        Set<String> constants = new TreeSet<>();
        for (Field field : ElevatorLedger.class.getDeclaredFields()) {
            if (!Modifier.isPrivate(field.getModifiers())) {
                constants.add(field.getName());
                Due.holds(field + " is a constant",
                        field.getModifiers() == (Modifier.PUBLIC | Modifier.STATIC | Modifier.FINAL));
            }
        }
        Due.holds("the constants are " + constants, constants.equals(new TreeSet<>(List.of(CONSTANTS))));
        Due.is("NO", ElevatorLedger.NO, Long.MIN_VALUE);
        for (Class<?> each : all()) {
            for (Method method : each.getDeclaredMethods()) {
                Due.holds(method + " bears no public name",
                        !Modifier.isPrivate(method.getModifiers()) || !names.contains(method.getName()));
            }
        }
    }

    private static List<Class<?>> all() {
        List<Class<?>> all = new ArrayList<>(List.of(ElevatorLedger.class.getDeclaredClasses()));
        all.add(ElevatorLedger.class);
        return all;
    }

    private static void classes() {
        Due.holds("at most twelve classes", all().size() <= 12);
        for (Class<?> each : all()) {
            Due.holds(each + " is static", each == ElevatorLedger.class || Modifier.isStatic(each.getModifiers()));
            Due.is(each + ": classes within", each == ElevatorLedger.class ? 0 : each.getDeclaredClasses().length, 0);
            int fields = 0;
            for (Field field : each.getDeclaredFields()) {
                boolean isStatic = Modifier.isStatic(field.getModifiers());
                fields += isStatic ? 0 : 1;
                Due.holds(field + " is final", !isStatic || Modifier.isFinal(field.getModifiers()));
                Due.holds(field + " is no constant double",
                        !isStatic || field.getType() != double.class && field.getType() != float.class);
            }
            Due.holds(each + ": at most twenty fields", fields <= 20);
            for (Method method : each.getDeclaredMethods()) {
                Due.holds(method + ": at most seven parameters", method.getParameterCount() <= 7);
            }
        }
    }

    private static void words(String code) {
        for (String word : FORBIDDEN) {
            Due.holds("no " + word, !Pattern.compile(word.equals("Exact") ? "Exact\\b" : "\\b" + word + "\\b").matcher(code).find());
        }
        Due.holds("no lambda, no method reference", !code.contains("->") && !code.contains("::"));
        Due.holds("no package", !code.contains("package "));
        Matcher imports = Pattern.compile("import ([\\w.*]+);").matcher(code);
        while (imports.find()) {
            Due.holds("import of " + imports.group(1), imports.group(1).equals("java.util.Arrays"));
        }
        Matcher calls = Pattern.compile("\\b(Arrays|System|Math|Integer|Long|String)\\.(\\w+)").matcher(code);
        Set<String> allowed = Set.of("Arrays.copyOf", "Arrays.fill", "Math.min", "Math.floorMod", "Math.floorDiv",
                "System.arraycopy", "Long.MIN_VALUE");
        while (calls.find()) {
            Due.holds(calls.group() + " is among what is used", allowed.contains(calls.group()));
        }
    }

    /** Lengths of methods, and how deep calls go that are no recursion: by names, a name standing for all that bear it. */
    private static void methods(String code) {
        Map<String, Set<String>> calls = new HashMap<>();
        Matcher heads = Pattern.compile("(?m)^( {4}| {8})(?:private|public)(?: static)? \\w[\\w\\[\\]]* (\\w+)\\([^;{]*\\) \\{$").matcher(code);
        Map<String, String> bodies = new HashMap<>();
        while (heads.find()) {
            int end = code.indexOf("\n" + heads.group(1) + "}\n", heads.end());
            String body = code.substring(heads.end(), end);
            Due.holds(heads.group(2) + " has at most sixty lines", body.lines().count() <= 60);
            bodies.merge(heads.group(2), body, String::concat);
        }
        for (String name : bodies.keySet()) {
            Set<String> its = new HashSet<>();
            Matcher uses = Pattern.compile("\\b(\\w+)\\(").matcher(bodies.get(name));
            while (uses.find()) {
                if (bodies.containsKey(uses.group(1))) {
                    its.add(uses.group(1));
                }
            }
            calls.put(name, its);
        }
        Due.holds("methods are found", calls.size() > 100);
        for (String name : List.of("audit", "ask", "scan", "cell", "isMissing", "put", "drop", "question", "count")) {
            int depth = depth(name, calls, new HashMap<>());
            Due.holds("calls of " + name + " go at most eight deep (" + depth + ")", depth <= 8);
        }
    }

    private static Set<String> reached(String from, Map<String, Set<String>> calls) {
        Set<String> reached = new HashSet<>();
        List<String> open = new ArrayList<>(calls.get(from));
        while (!open.isEmpty()) {
            String next = open.remove(open.size() - 1);
            if (reached.add(next)) {
                open.addAll(calls.get(next));
            }
        }
        return reached;
    }

    /** Methods that call one another count as one. */
    private static int depth(String name, Map<String, Set<String>> calls, Map<String, Integer> known) {
        if (known.containsKey(name)) {
            return known.get(name);
        }
        Set<String> circle = new HashSet<>();
        for (String each : reached(name, calls)) {
            if (reached(each, calls).contains(name)) {
                circle.add(each);
            }
        }
        circle.add(name);
        int deepest = 0;
        for (String each : circle) {
            for (String next : calls.get(each)) {
                if (!circle.contains(next)) {
                    deepest = Math.max(deepest, depth(next, calls, known));
                }
            }
        }
        known.put(name, deepest + 1);
        return deepest + 1;
    }
}
