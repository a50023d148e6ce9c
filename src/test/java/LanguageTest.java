import java.io.IOException;
import java.lang.reflect.Constructor;
import java.lang.reflect.Field;
import java.lang.reflect.Method;
import java.lang.reflect.Modifier;
import java.nio.file.Files;
import java.nio.file.Path;
import java.util.ArrayList;
import java.util.Arrays;
import java.util.List;
import java.util.Map;
import java.util.Set;
import java.util.TreeMap;
import java.util.TreeSet;
import java.util.regex.Matcher;
import java.util.regex.Pattern;

/** The face as the document has it, and the rules of LANGUAGE.md that can be read off the class and its file. */
public final class LanguageTest {
    private static final Path SOURCE = Path.of("src/main/java/HoleWater.java");
    private static final Path DOCUMENT = Path.of("../shared/DOC.md");
    private static final String[] BANNED = {"throw", "throws", "try", "catch", "finally", "synchronized", "assert", "volatile",
        "transient", "native", "System.out", "Exact", "->", "::", "Object", "hashCode", "toString", "var", "yield", "protected"};
    private static final Set<String> VOICES = Set.of("runs", "holds", "spills", "tells");
    private static final int MOST_DEEP = 8;
    private static int wrong = 0;

    private static void rule(boolean kept, String what) {
        if (!kept) {
            wrong++;
            System.out.println(what);
        }
    }

    public static void main(String[] args) throws IOException {
        face();
        members();
        tokens();
        methodLengths();
        callDepths();
        voiceDepths();
        System.out.println(wrong == 0 ? "the face and the rules are kept" : wrong + " rules are not kept");
        if (wrong != 0) {
            System.exit(1);
        }
    }

    private static String signature(String type, String name, Class<?>[] parameters) {
        return type + " " + name + Arrays.stream(parameters).map(Class::getSimpleName).toList();
    }

    private static void face() throws IOException {
        Set<String> due = new TreeSet<>();
        Matcher line = Pattern.compile("public (\\w+) (\\w+)\\((.*?)\\);").matcher(Files.readString(DOCUMENT));
        while (line.find()) {
            List<String> types = new ArrayList<>();
            for (String parameter : line.group(3).split(", ")) {
                if (!parameter.isEmpty()) {
                    types.add(parameter.split(" ")[0]);
                }
            }
            due.add(line.group(1) + " " + line.group(2) + types);
        }
        Set<String> is = new TreeSet<>();
        Set<String> names = new TreeSet<>();
        for (Method method : HoleWater.class.getDeclaredMethods()) {
            if (Modifier.isPublic(method.getModifiers())) {
                is.add(signature(method.getReturnType().getSimpleName(), method.getName(), method.getParameterTypes()));
                names.add(method.getName());
            }
        }
        rule(due.size() == 45 && due.equals(is), "the face is " + is + ", due is " + due);
        rule(Modifier.isFinal(HoleWater.class.getModifiers()), "the class is not final");
        Constructor<?>[] made = HoleWater.class.getDeclaredConstructors();
        rule(made.length == 1 && Modifier.isPublic(made[0].getModifiers()) && made[0].getParameterCount() == 0, "the constructor");
        for (Class<?> one : classes()) {
            for (Method method : one.getDeclaredMethods()) {
                boolean shown = one == HoleWater.class && Modifier.isPublic(method.getModifiers());
                rule(shown || !names.contains(method.getName()), "a private method bears a public name: " + method);
            }
        }
    }

    private static List<Class<?>> classes() {
        List<Class<?>> all = new ArrayList<>(List.of(HoleWater.class));
        all.addAll(Arrays.asList(HoleWater.class.getDeclaredClasses()));
        return all;
    }

    private static void members() {
        rule(classes().size() <= 12, "more than twelve classes");
        for (Class<?> one : classes()) {
            int fields = 0;
            for (Field field : one.getDeclaredFields()) {
                boolean fixed = Modifier.isStatic(field.getModifiers());
                rule(!fixed || Modifier.isFinal(field.getModifiers()), "a static field that is not final: " + field);
                rule(one != HoleWater.class || Modifier.isPrivate(field.getModifiers()), "a field that shows: " + field);
                fields += fixed ? 0 : 1;
            }
            rule(fields <= 20, "more than twenty fields in " + one);
            rule(one == HoleWater.class || Modifier.isStatic(one.getModifiers()), "an inner class that isn't static: " + one);
            for (Method method : one.getDeclaredMethods()) {
                boolean shows = !Modifier.isPublic(method.getModifiers()) && !Modifier.isPrivate(method.getModifiers());
                rule(one != HoleWater.class || !shows, "a method that shows: " + method);
                rule(method.getParameterCount() <= 7, "more than seven parameters: " + method);
            }
        }
    }

    private static String bare() throws IOException {
        String source = Files.readString(SOURCE);
        rule(source.chars().allMatch(c -> c < 128), "a sign above 127");
        return source.replaceAll("(?s)/\\*.*?\\*/", "").replaceAll("//[^\n]*", "").replaceAll("\"[^\"\n]*\"", "\"\"");
    }

    private static void tokens() throws IOException {
        String source = bare();
        for (String token : BANNED) {
            String pattern = Character.isLetter(token.charAt(0)) ? "\\b" + Pattern.quote(token) + "\\b" : Pattern.quote(token);
            rule(!Pattern.compile(pattern).matcher(source).find(), "the file has " + token);
        }
        Matcher imported = Pattern.compile("import ([\\w.]+);").matcher(source);
        while (imported.find()) {
            rule(imported.group(1).equals("java.util.Arrays"), "the file imports " + imported.group(1));
        }
        Matcher called = Pattern.compile("\\b(Arrays|Math|Integer|Long|System|String)\\.(\\w+)").matcher(source);
        Set<String> known = Set.of("Arrays.fill", "Math.max", "Math.min", "Integer.bitCount", "System.arraycopy");
        while (called.find()) {
            rule(known.contains(called.group()), "the file calls " + called.group());
        }
        rule(!source.contains("package "), "a package line");
        rule(!Pattern.compile("while \\(true\\)|for \\(;;\\)").matcher(source).find(), "a loop without an end");
    }

    /** The body of each method, by its name; those of one name together. */
    private static Map<String, List<String>> bodies() throws IOException {
        String[] lines = bare().split("\n", -1);
        Pattern start = Pattern.compile("^( {4}| {8})(?!return|else)(?:(?:private|public|static|final) )*[\\w\\[\\]]+ (\\w+)\\(.*");
        Map<String, List<String>> all = new TreeMap<>();
        for (int i = 0; i < lines.length; i++) {
            Matcher matcher = start.matcher(lines[i]);
            if (matcher.matches()) {
                int end = i;
                while (end < lines.length && !lines[end].equals(matcher.group(1) + "}")) {
                    end++;
                }
                String body = String.join("\n", Arrays.copyOfRange(lines, i + 1, Math.min(end, lines.length)));
                all.computeIfAbsent(matcher.group(2), name -> new ArrayList<>()).add(body);
            }
        }
        return all;
    }

    private static void methodLengths() throws IOException {
        int methods = 0;
        for (Map.Entry<String, List<String>> one : bodies().entrySet()) {
            for (String body : one.getValue()) {
                methods++;
                rule(body.lines().count() < 60, "a method of more than sixty lines: " + one.getKey());
            }
        }
        rule(methods > 100, "methods were not found: " + methods);
    }

    /** Calls go at most eight deep, each method of a recursion counted once, too; VOICES are counted as they are called. */
    private static void callDepths() throws IOException {
        Map<String, Set<String>> calls = new TreeMap<>();
        Map<String, List<String>> bodies = bodies();
        for (Map.Entry<String, List<String>> one : bodies.entrySet()) {
            Set<String> called = new TreeSet<>();
            Matcher name = Pattern.compile("(\\bnew )?\\b(\\w+)\\(").matcher(String.join("\n", one.getValue()));
            while (name.find()) {
                if (name.group(1) == null && bodies.containsKey(name.group(2)) && !VOICES.contains(name.group(2))) {
                    called.add(name.group(2));
                }
            }
            calls.put(one.getKey(), called);
        }
        rule(calls.get("hours").contains("passHour") && calls.get("text").contains("casesOf"), "calls were not found");
        for (String name : calls.keySet()) {
            List<String> deepest = deepest(name, calls, new ArrayList<>());
            rule(deepest.size() <= MOST_DEEP, "calls go more than eight deep: " + deepest);
        }
    }

    private static List<String> deepest(String name, Map<String, Set<String>> calls, List<String> above) {
        above.add(name);
        List<String> best = new ArrayList<>(above);
        for (String called : calls.get(name)) {
            if (!above.contains(called)) {
                List<String> one = deepest(called, calls, above);
                best = one.size() > best.size() ? one : best;
            }
        }
        above.remove(above.size() - 1);
        return best;
    }

    /** Of runs, holds and spills each BODY stands in the one ahead of it; voice() is above, what keeps THE TRACE below. */
    private static void voiceDepths() {
        HoleWater x = new HoleWater();
        x.joint(0, 1, 9);
        x.joint(2, 1, 1);
        for (int kind = 0; kind < 6; kind++) {
            rule(x.way(kind, 1, 1, 2) == kind, "a WAY of each KIND");
            for (int act = 0; act < 3; act++) {
                x.voice(kind, act, 1);
                rule(x.count(8) > 0 && x.count(8) + 2 <= MOST_DEEP, "a VOICE goes more than eight deep: " + kind + ", " + act);
            }
        }
    }
}
