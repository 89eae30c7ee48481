import java.lang.reflect.Constructor;
import java.lang.reflect.Field;
import java.lang.reflect.Method;
import java.lang.reflect.Modifier;
import java.nio.file.Files;
import java.nio.file.Path;
import java.util.Arrays;
import java.util.List;
import java.util.Set;
import java.util.TreeSet;

/** The face, and those rules of LANGUAGE.md that can be read off the class or its text. */
public final class RulesTest {
    private static final Check CHECK = new Check();

    // The methods, each with the types of its arguments and what it throws, in the order of the document.
    private static final List<String> FACE = List.of(
        "append int throws IllegalArgumentException IllegalStateException",
        "clearText",
        "errorPosition",
        "load throws IllegalStateException",
        "about int throws IllegalArgumentException",
        "player int int throws IndexOutOfBoundsException IllegalArgumentException",
        "worker int int throws IndexOutOfBoundsException IllegalArgumentException",
        "setting int throws IllegalArgumentException",
        "begin int long throws IllegalArgumentException",
        "place int int throws IndexOutOfBoundsException IllegalArgumentException IllegalStateException",
        "pass throws IllegalStateException",
        "play throws IllegalStateException",
        "set int int throws IllegalArgumentException",
        "undo throws IllegalStateException",
        "brings int int throws IndexOutOfBoundsException IllegalArgumentException",
        "bumps int throws IndexOutOfBoundsException",
        "best int throws IllegalArgumentException",
        "loses int int throws IndexOutOfBoundsException IllegalArgumentException",
        "goesOn int throws IllegalArgumentException",
        "weather int throws IllegalArgumentException",
        "runScript int long throws IllegalArgumentException",
        "simulate long int throws IllegalArgumentException",
        "save int throws IndexOutOfBoundsException",
        "restore int throws IndexOutOfBoundsException IllegalStateException");

    private static final List<String> BARRED = List.of("import ", "package ", "->", "::", "try {", "catch", "finally",
        "synchronized", "assert", "var ", "instanceof", "Object", "hashCode", "toString", "System.", "Exact", "float",
        "double", "record ", "static {", "protected", "@", "Thread", "new String");

    public static void main(String[] args) throws Exception {
        face();
        nestedClasses();
        text(args.length > 0 ? args[0] : "src/main/java/SaltMarket.java");
        CHECK.end("RulesTest");
    }

    private static void face() throws Exception {
        Set<String> methods = new TreeSet<>();
        Set<String> names = new TreeSet<>();
        for (Method m : SaltMarket.class.getDeclaredMethods()) {
            if (!Modifier.isPrivate(m.getModifiers())) {
                StringBuilder sign = new StringBuilder(m.getName());
                for (Class<?> type : m.getParameterTypes()) {
                    sign.append(' ').append(type.getName());
                }
                String before = " throws ";
                for (Class<?> thrown : m.getExceptionTypes()) {
                    sign.append(before).append(thrown.getSimpleName());
                    before = " ";
                }
                methods.add(sign.toString());
                names.add(m.getName());
                CHECK.same(m.getName() + " is public", "true", "" + Modifier.isPublic(m.getModifiers()));
                CHECK.same(m.getName() + " answers", "int", m.getReturnType().getName());
            }
        }
        CHECK.same("the methods", new TreeSet<>(FACE).toString(), methods.toString());
        for (Method m : SaltMarket.class.getDeclaredMethods()) {
            boolean twice = Modifier.isPrivate(m.getModifiers()) && names.contains(m.getName());
            CHECK.same(m.getName() + " is a private method with a public name", "false", "" + twice);
        }
        for (Field f : SaltMarket.class.getDeclaredFields()) {
            boolean constant = f.getName().equals("NONE");
            CHECK.same(f.getName() + " is private", "" + !constant, "" + Modifier.isPrivate(f.getModifiers()));
        }
        Constructor<?>[] made = SaltMarket.class.getDeclaredConstructors();
        CHECK.same("constructors", "[public SaltMarket()]", Arrays.toString(made));
        CHECK.same("it is public and final", "public final", Modifier.toString(SaltMarket.class.getModifiers()));
    }

    private static void nestedClasses() {
        Class<?>[] nested = SaltMarket.class.getDeclaredClasses();
        CHECK.same("at most twelve classes", "true", "" + (nested.length < 12));
        for (Class<?> c : nested) {
            CHECK.same(c.getName() + " is private and static", "private static final", Modifier.toString(c.getModifiers()));
            int fields = 0;
            for (Field f : c.getDeclaredFields()) {
                fields += Modifier.isStatic(f.getModifiers()) ? 0 : 1;
            }
            CHECK.same(c.getName() + " has at most twenty fields", "true", "" + (fields <= 20));
        }
    }

    private static void text(String file) throws Exception {
        int number = 0;
        for (String line : Files.readAllLines(Path.of(file))) {
            number++;
            String code = line.replaceAll("//.*", "").replaceAll("^\\s*/?\\*.*", "").replaceAll("\"[^\"]*\"", "");
            for (String word : BARRED) {
                CHECK.same("line " + number + " holds " + word, "false", "" + code.contains(word));
            }
        }
        CHECK.same("the file is read", "true", "" + (number > 100));
    }
}
