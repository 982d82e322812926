import java.io.IOException;
import java.lang.reflect.Field;
import java.lang.reflect.Method;
import java.lang.reflect.Modifier;
import java.nio.file.Files;
import java.nio.file.Path;
import java.util.ArrayList;
import java.util.Arrays;
import java.util.List;
import java.util.TreeSet;
import java.util.regex.Matcher;
import java.util.regex.Pattern;

/** What can be seen of LANGUAGE.md's rules, and the face of DOC.md. Arguments: the shared folder, the class's file. */
public final class LanguageTest {
    private static final Check CHECK = new Check("LanguageTest");

    public static void main(String[] args) throws IOException {
        String shared = args.length > 0 ? args[0] : "../shared";
        String file = args.length > 1 ? args[1] : "src/main/java/LeakCups.java";
        String source = Files.readString(Path.of(file));
        face(Files.readString(Path.of(shared, "DOC.md")));
        members();
        groups(source);
        words(source);
        methodsStayShort(source);
        CHECK.end();
    }

    /** The face stands in DOC.md's only block of java. */
    private static void face(String doc) {
        String block = doc.substring(doc.indexOf("```java"));
        block = block.substring(0, block.indexOf("```", 7));
        TreeSet<String> due = new TreeSet<>();
        Matcher line = Pattern.compile("public int (\\w+)\\(([^)]*)\\);").matcher(block);
        while (line.find()) {
            int given = line.group(2).isEmpty() ? 0 : line.group(2).split(",").length;
            due.add(line.group(1) + " " + given);
        }
        TreeSet<String> has = new TreeSet<>();
        for (Method method : LeakCups.class.getDeclaredMethods()) {
            if (Modifier.isPublic(method.getModifiers())) {
                has.add(method.getName() + " " + method.getParameterCount());
                CHECK.holds(method + " answers an int", method.getReturnType() == int.class);
                CHECK.holds(method + " is no static one", !Modifier.isStatic(method.getModifiers()));
                CHECK.holds(method + " takes ints", Arrays.stream(method.getParameterTypes()).allMatch(t -> t == int.class));
            }
        }
        System.out.println("LanguageTest: the face has " + due.size() + " methods");
        CHECK.holds("the face is " + due + ", the class has " + has, due.equals(has) && !due.isEmpty());
        CHECK.due("constructors", LeakCups.class.getDeclaredConstructors().length, 1);
        CHECK.holds("public and final", (LeakCups.class.getModifiers() & (Modifier.PUBLIC | Modifier.FINAL)) == 17);
    }

    private static void members() {
        List<String> names = new ArrayList<>();
        for (Method method : LeakCups.class.getDeclaredMethods()) {
            if (Modifier.isPublic(method.getModifiers())) {
                names.add(method.getName());
            }
        }
        for (Method method : LeakCups.class.getDeclaredMethods()) {
            if (!Modifier.isPublic(method.getModifiers())) {
                CHECK.holds(method + " is private", Modifier.isPrivate(method.getModifiers()));
                CHECK.holds(method + " has a name of its own", !names.contains(method.getName()));
            }
        }
        for (Field field : LeakCups.class.getDeclaredFields()) {
            CHECK.holds(field + " is private", Modifier.isPrivate(field.getModifiers()));
        }
        classesInside();
    }

    private static void classesInside() {
        Class<?>[] inside = LeakCups.class.getDeclaredClasses();
        CHECK.holds("some twelve classes", inside.length < 12);
        for (Class<?> own : inside) {
            CHECK.holds(own + " is static", Modifier.isStatic(own.getModifiers()));
            CHECK.holds(own + " is not public", !Modifier.isPublic(own.getModifiers()));
            int fields = 0;
            for (Field field : own.getDeclaredFields()) {
                boolean isStatic = Modifier.isStatic(field.getModifiers());
                CHECK.holds(field + " is final if static", !isStatic || Modifier.isFinal(field.getModifiers()));
                fields += isStatic ? 0 : 1;
            }
            CHECK.holds(own + " has some twenty fields", fields <= 20);
            for (Method method : own.getDeclaredMethods()) {
                CHECK.holds(method + " takes at most seven", method.getParameterCount() <= 7);
            }
        }
    }

    /** The comments that DOC.md's Terms want ahead of the calls. */
    private static void groups(String source) {
        String[][] groups = {
            {"the wheel", "set"}, {"turns", "turn"}, {"programs", "feed"}, {"runs ahead", "ahead"},
            {"spots, sheets", "hold"}, {"images", "image"}
        };
        for (String[] group : groups) {
            Pattern head = Pattern.compile("// ---- " + group[0] + "\\s+public int " + group[1] + "\\(");
            CHECK.holds("---- " + group[0], head.matcher(source).find());
        }
    }

    private static void words(String source) {
        String code = source.replaceAll("(?s)/\\*.*?\\*/", " ").replaceAll("//[^\n]*", " ");
        String[] no = {
            "throw", "throws", "try", "catch", "finally", "synchronized", "assert", "import", "package", "System\\.out",
            "equals", "hashCode", "toString", "\\w+Exact", "var", "Object", "Exception", "->", "::", "volatile", "native",
            "instanceof", "protected", "double", "float", "@\\w+", "random", "nanoTime", "currentTimeMillis"
        };
        for (String word : no) {
            String edges = Character.isLetter(word.charAt(0)) ? "\\b" : "";
            CHECK.holds("no " + word, !Pattern.compile(edges + word + edges).matcher(code).find());
        }
        Matcher library = Pattern.compile("\\b(Math|Integer|Long|System|String|Arrays)\\.(\\w+)").matcher(code);
        List<String> listed = List.of("Math.max", "Math.min", "Math.abs", "Math.floorMod", "Math.floorDiv",
            "Integer.compare", "Long.compare", "System.arraycopy");
        while (library.find()) {
            CHECK.holds(library.group() + " is listed", listed.contains(library.group()));
        }
        CHECK.holds("signs 1 to 127 alone", source.chars().allMatch(c -> c > 0 && c < 128));
    }

    /** By the file's way to set lines: a method's head and its last bracket stand equally far in. */
    private static void methodsStayShort(String source) {
        String[] lines = source.split("\n");
        Pattern head = Pattern.compile("^( {4}| {8})[a-zA-Z][\\w\\[\\] ]*\\([^;]*\\{$");
        int methods = 0;
        for (int i = 0; i < lines.length; i++) {
            Matcher method = head.matcher(lines[i]);
            if (method.find() && !lines[i].trim().matches("(if|for|while|switch|else).*")) {
                int end = i;
                while (end < lines.length - 1 && !lines[end].equals(method.group(1) + "}")) {
                    end++;
                }
                methods++;
                CHECK.holds("short: " + lines[i].trim(), end - i < 60);
            }
        }
        CHECK.holds("methods are seen: " + methods, methods > 100);
    }
}
