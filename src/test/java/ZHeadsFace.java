import java.lang.reflect.Constructor;
import java.lang.reflect.Field;
import java.lang.reflect.Method;
import java.lang.reflect.Modifier;
import java.nio.file.Files;
import java.nio.file.Path;
import java.util.Arrays;
import java.util.Set;
import java.util.TreeSet;
import java.util.regex.Matcher;
import java.util.regex.Pattern;
import java.util.stream.Collectors;

/** The face is the document's and nothing more, and the text of the program keeps to LANGUAGE.md. */
public final class ZHeadsFace {
    private static final String AIOOBE = " throws java.lang.ArrayIndexOutOfBoundsException";
    private static final String[] METHODS = {
        "int octet(int)", "int feed(long,int)", "int fill(int,int)", "int poke(int,int)", "int clear()",
        "int read()", "int rule()", "int field(int)", "int serial(int)" + AIOOBE, "int global(int)" + AIOOBE,
        "int load(int)" + AIOOBE, "int store(int,int)", "int packed(int,boolean)",
        "int first(int,boolean)" + AIOOBE, "int sum()", "int agrees()", "int flag(int,int,boolean,boolean)",
        "int isOn(int,int)", "int set(int,int)", "int restart()", "int sign(int)" + AIOOBE,
        "int ratio(boolean) throws java.lang.ArithmeticException", "int size()"};
    private static final String[] CONSTANTS = {"NONE=-5", "STATE=-11", "OUTSIDE=-12", "BARRED=-13", "FULL=-14"};
    private static int wrong = 0;

    private static void due(String what, Object got, Object want) {
        if (!got.equals(want)) {
            wrong++;
            System.out.println(what + " is " + got + ", due is " + want);
        }
    }

    private static void face() throws IllegalAccessException {
        due("the class", Modifier.toString(ZHeads.class.getModifiers()), "public final");
        Set<String> methods = new TreeSet<>();
        for (Method m : ZHeads.class.getDeclaredMethods()) {
            if (!Modifier.isPrivate(m.getModifiers())) {
                due("the modifiers of " + m.getName(), Modifier.toString(m.getModifiers()), "public");
                methods.add(m.toGenericString().replace("public ", "").replace("ZHeads.", ""));
            }
        }
        due("the methods", methods, new TreeSet<>(Arrays.asList(METHODS)));
        Set<String> constants = new TreeSet<>();
        for (Field f : ZHeads.class.getDeclaredFields()) {
            if (!Modifier.isPrivate(f.getModifiers())) {
                due("the modifiers of " + f.getName(), Modifier.toString(f.getModifiers()), "public static final");
                constants.add(f.getName() + "=" + f.getInt(null));
            }
        }
        due("the constants", constants, new TreeSet<>(Arrays.asList(CONSTANTS)));
        Constructor<?>[] made = ZHeads.class.getDeclaredConstructors();
        due("the constructors", Arrays.toString(made), "[public ZHeads()]");
    }

    private static void classesInside() {
        Set<String> names = Arrays.stream(ZHeads.class.getDeclaredMethods())
            .filter(m -> Modifier.isPublic(m.getModifiers())).map(Method::getName).collect(Collectors.toSet());
        for (Class<?> c : ZHeads.class.getDeclaredClasses()) {
            due(c + " is static", Modifier.isStatic(c.getModifiers()), true);
            due(c + " is public", Modifier.isPublic(c.getModifiers()), false);
            for (Method m : c.getDeclaredMethods()) {
                due(m + " bears a name of the face", names.contains(m.getName()), false);
            }
        }
        for (Method m : ZHeads.class.getDeclaredMethods()) {
            if (Modifier.isPrivate(m.getModifiers())) {
                due(m + " bears a name of the face", names.contains(m.getName()), false);
            }
        }
    }

    private static void text() throws java.io.IOException {
        String code = Files.readString(Path.of("src/main/java/ZHeads.java"))
            .replaceAll("(?s)/\\*.*?\\*/", "").replaceAll("//[^\n]*", "");
        String barred = "\\b(import|package|try|catch|finally|synchronized|assert|double|float|Object|Exact)\\b|->|::"
            + "|\\bstatic\\s*\\{";
        Matcher found = Pattern.compile(barred).matcher(code);
        while (found.find()) {
            due("a word that the program does without", found.group(), "");
        }
        Matcher thrown = Pattern.compile("throw new (\\w+)\\(").matcher(code);
        while (thrown.find()) {
            String name = thrown.group(1);
            due(name + " is named by the document",
                name.equals("ArrayIndexOutOfBoundsException") || name.equals("ArithmeticException"), true);
        }
    }

    public static void main(String[] args) throws Exception {
        face();
        classesInside();
        text();
        System.out.println(wrong == 0 ? "the face is as due" : wrong + " things are not as due");
        if (wrong != 0) {
            System.exit(1);
        }
    }
}
