import java.io.IOException;
import java.lang.reflect.Field;
import java.lang.reflect.Method;
import java.lang.reflect.Modifier;
import java.net.URL;
import java.net.URLClassLoader;
import java.nio.file.Files;
import java.nio.file.Path;
import java.util.Comparator;
import java.util.List;
import java.util.Set;
import java.util.TreeSet;
import java.util.regex.Matcher;
import java.util.regex.Pattern;
import java.util.stream.Collectors;
import java.util.stream.Stream;
import javax.tools.ToolProvider;

/** README.md's example answers what it says, and its text names every member of the face. */
public final class ZHeadsReadme {
    private static final Pattern BLOCK = Pattern.compile("(?s)```java\n(.*?)```");
    private static final Pattern CALL = Pattern.compile("(x\\.(\\w+)\\(.*\\));\\s+// (-?\\w+)(:.*)?");
    private static final String EXAMPLE = "ReadmeExample";
    private static int wrong = 0;

    private static void complain(String words) {
        wrong++;
        System.out.println("README.md: " + words);
    }

    private static void namesTheFace(String text) {
        Set<String> names = new TreeSet<>();
        for (Method m : ZHeads.class.getDeclaredMethods()) {
            if (Modifier.isPublic(m.getModifiers())) {
                names.add(m.getName() + "(");
            }
        }
        for (Field f : ZHeads.class.getDeclaredFields()) {
            if (Modifier.isPublic(f.getModifiers())) {
                names.add(f.getName() + "`");
            }
        }
        names.add(".ci/run");
        for (String name : names) {
            if (!text.contains(name)) {
                complain("does not name " + name);
            }
        }
    }

    private static String example(String text) {
        Matcher block = BLOCK.matcher(text);
        if (!block.find()) {
            complain("has no example");
            return "";
        }
        return block.group(1);
    }

    /** One line of the example as Java that answers whether the call is as its comment says. */
    private static String checked(String line) {
        if (line.equals("ZHeads x = new ZHeads();")) {
            return line;
        }
        Matcher call = CALL.matcher(line);
        if (!call.matches()) {
            complain("does not say what is due: " + line);
            return "";
        }
        String due = call.group(3);
        if (due.endsWith("Exception")) {
            return "try { " + call.group(1) + "; wrong.add(\"" + call.group(1) + "\"); } catch (" + due + " e) { }";
        }
        String number = Character.isUpperCase(due.charAt(0)) ? "ZHeads." + due : due;
        return "if (" + call.group(1) + " != " + number + ") { wrong.add(\"" + call.group(1) + "\"); }";
    }

    private static String program(List<String> lines) {
        return "public final class " + EXAMPLE + " {\n"
            + "public static java.util.List<String> wrong() {\n"
            + "java.util.List<String> wrong = new java.util.ArrayList<>();\n"
            + lines.stream().map(ZHeadsReadme::checked).collect(Collectors.joining("\n"))
            + "\nreturn wrong;\n}\n}\n";
    }

    private static void run(String source, Path folder) throws Exception {
        Path file = folder.resolve(EXAMPLE + ".java");
        Files.writeString(file, source);
        int ended = ToolProvider.getSystemJavaCompiler().run(null, null, null,
            "-cp", System.getProperty("java.class.path"), "-d", folder.toString(), file.toString());
        if (ended != 0) {
            complain("its example does not compile");
            return;
        }
        try (URLClassLoader loader = new URLClassLoader(new URL[] {folder.toUri().toURL()})) {
            Object answers = loader.loadClass(EXAMPLE).getMethod("wrong").invoke(null);
            for (Object call : (List<?>) answers) {
                complain("its example is wrong about " + call);
            }
        }
    }

    private static void remove(Path folder) throws IOException {
        try (Stream<Path> all = Files.walk(folder)) {
            for (Path path : all.sorted(Comparator.reverseOrder()).collect(Collectors.toList())) {
                Files.delete(path);
            }
        }
    }

    public static void main(String[] args) throws Exception {
        String text = Files.readString(Path.of("README.md"));
        namesTheFace(text.replaceAll("(?s)```.*?```", ""));
        List<String> lines = example(text).lines().collect(Collectors.toList());
        Path folder = Files.createTempDirectory("readme");
        try {
            run(program(lines), folder);
        } finally {
            remove(folder);
        }
        System.out.println(lines.size() + " lines of the example, " + wrong + " things wrong");
        if (wrong != 0) {
            System.exit(1);
        }
    }
}
