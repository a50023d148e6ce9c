import java.io.IOException;
import java.lang.reflect.Constructor;
import java.lang.reflect.Field;
import java.lang.reflect.Method;
import java.lang.reflect.Modifier;
import java.nio.file.Files;
import java.nio.file.Path;
import java.util.ArrayList;
import java.util.Arrays;
import java.util.List;
import java.util.Set;
import java.util.TreeSet;
import java.util.regex.Matcher;
import java.util.regex.Pattern;

/** The face as the document has it, and the rules of LANGUAGE.md that can be read off the class and its file. */
public final class LanguageTest {
    private static final Path SOURCE = Path.of("src/main/java/HoleWater.java");
    private static final Path DOCUMENT = Path.of("../shared/DOC.md");
    private static final String[] BANNED = {"throw", "throws", "try", "catch", "finally", "synchronized", "assert", "volatile",
        "transient", "native", "System.out", "Exact", "->", "::", "Object", "hashCode", "toString", "var", "yield", "protected"};
    private static int wrong = 0;

    private static void rule(boolean kept, String what) {
        if (!kept) {
            wrong++;
            System.out.println(what);
        }
    }

    public static void main(String[] args) throws IOException {
        face();
        members();
        tokens();
        methodLengths();
        System.out.println(wrong == 0 ? "the face and the rules are kept" : wrong + " rules are not kept");
        if (wrong != 0) {
            System.exit(1);
        }
    }

    private static String signature(String type, String name, Class<?>[] parameters) {
        return type + " " + name + Arrays.stream(parameters).map(Class::getSimpleName).toList();
    }

    private static void face() throws IOException {
        Set<String> due = new TreeSet<>();
        Matcher line = Pattern.compile("public (\\w+) (\\w+)\\((.*?)\\);").matcher(Files.readString(DOCUMENT));
        while (line.find()) {
            List<String> types = new ArrayList<>();
            for (String parameter : line.group(3).split(", ")) {
                if (!parameter.isEmpty()) {
                    types.add(parameter.split(" ")[0]);
                }
            }
            due.add(line.group(1) + " " + line.group(2) + types);
        }
        Set<String> is = new TreeSet<>();
        Set<String> names = new TreeSet<>();
        for (Method method : HoleWater.class.getDeclaredMethods()) {
            if (Modifier.isPublic(method.getModifiers())) {
                is.add(signature(method.getReturnType().getSimpleName(), method.getName(), method.getParameterTypes()));
                names.add(method.getName());
            }
        }
        rule(due.size() == 45 && due.equals(is), "the face is " + is + ", due is " + due);
        rule(Modifier.isFinal(HoleWater.class.getModifiers()), "the class is not final");
        Constructor<?>[] made = HoleWater.class.getDeclaredConstructors();
        rule(made.length == 1 && Modifier.isPublic(made[0].getModifiers()) && made[0].getParameterCount() == 0, "the constructor");
        for (Class<?> one : classes()) {
            for (Method method : one.getDeclaredMethods()) {
                boolean shown = one == HoleWater.class && Modifier.isPublic(method.getModifiers());
                rule(shown || !names.contains(method.getName()), "a private method bears a public name: " + method);
            }
        }
    }

    private static List<Class<?>> classes() {
        List<Class<?>> all = new ArrayList<>(List.of(HoleWater.class));
        all.addAll(Arrays.asList(HoleWater.class.getDeclaredClasses()));
        return all;
    }

    private static void members() {
        rule(classes().size() <= 12, "more than twelve classes");
        for (Class<?> one : classes()) {
            int fields = 0;
            for (Field field : one.getDeclaredFields()) {
                boolean fixed = Modifier.isStatic(field.getModifiers());
                rule(!fixed || Modifier.isFinal(field.getModifiers()), "a static field that is not final: " + field);
                rule(one != HoleWater.class || Modifier.isPrivate(field.getModifiers()), "a field that shows: " + field);
                fields += fixed ? 0 : 1;
            }
            rule(fields <= 20, "more than twenty fields in " + one);
            rule(one == HoleWater.class || Modifier.isStatic(one.getModifiers()), "an inner class that isn't static: " + one);
            for (Method method : one.getDeclaredMethods()) {
                boolean shows = !Modifier.isPublic(method.getModifiers()) && !Modifier.isPrivate(method.getModifiers());
                rule(one != HoleWater.class || !shows, "a method that shows: " + method);
                rule(method.getParameterCount() <= 7, "more than seven parameters: " + method);
            }
        }
    }

    private static String bare() throws IOException {
        String source = Files.readString(SOURCE);
        rule(source.chars().allMatch(c -> c < 128), "a sign above 127");
        return source.replaceAll("(?s)/\\*.*?\\*/", "").replaceAll("//[^\n]*", "").replaceAll("\"[^\"\n]*\"", "\"\"");
    }

    private static void tokens() throws IOException {
        String source = bare();
        for (String token : BANNED) {
            String pattern = Character.isLetter(token.charAt(0)) ? "\\b" + Pattern.quote(token) + "\\b" : Pattern.quote(token);
            rule(!Pattern.compile(pattern).matcher(source).find(), "the file has " + token);
        }
        Matcher imported = Pattern.compile("import ([\\w.]+);").matcher(source);
        while (imported.find()) {
            rule(imported.group(1).equals("java.util.Arrays"), "the file imports " + imported.group(1));
        }
        Matcher called = Pattern.compile("\\b(Arrays|Math|Integer|Long|System|String)\\.(\\w+)").matcher(source);
        Set<String> known = Set.of("Arrays.fill", "Math.max", "Math.min", "Integer.bitCount", "System.arraycopy");
        while (called.find()) {
            rule(known.contains(called.group()), "the file calls " + called.group());
        }
        rule(!source.contains("package "), "a package line");
        rule(!Pattern.compile("while \\(true\\)|for \\(;;\\)").matcher(source).find(), "a loop without an end");
    }

    private static void methodLengths() throws IOException {
        String[] lines = bare().split("\n", -1);
        Pattern start = Pattern.compile("^( {4}| {8})(?!return|else)(?:(?:private|public|static|final) )*[\\w\\[\\]]+ \\w+\\(.*");
        int methods = 0;
        for (int i = 0; i < lines.length; i++) {
            Matcher matcher = start.matcher(lines[i]);
            if (matcher.matches()) {
                methods++;
                int end = i;
                while (end < lines.length && !lines[end].equals(matcher.group(1) + "}")) {
                    end++;
                }
                rule(end - i < 60, "a method of more than sixty lines: " + lines[i]);
            }
        }
        rule(methods > 100, "methods were not found: " + methods);
    }
}
