import java.io.IOException;
import java.lang.reflect.Constructor;
import java.lang.reflect.Field;
import java.lang.reflect.Method;
import java.lang.reflect.Modifier;
import java.nio.file.Files;
import java.nio.file.Path;
import java.util.ArrayList;
import java.util.Arrays;
import java.util.List;
import java.util.Set;
import java.util.TreeSet;
import java.util.regex.Matcher;
import java.util.regex.Pattern;

/** The rules of ../shared/LANGUAGE.md that can be read off the class and its text. */
final class RulesTest {
    private static final String[] FACE = {"int feed(long, long, long)", "int book()", "int named(int)", "boolean setting(int, int)", "int check()", "int fault(int, int)", "int cycle(int, int)",
        "int component(int, int)", "int candidate(int, int, int)", "int day()", "int meal(int)", "int get(int, int)", "int call(int, int, int, int)", "int close(int)", "int outcome()", "int cause(int)",
        "int object(int, int)", "int joined(int, int, int)", "int closed(int, int)", "int spoiled(int, int)", "int did(int, int)", "int count(int)"};
    private static final String EXCEPTIONS = "IllegalStateException|IllegalArgumentException|IndexOutOfBoundsException|ArithmeticException|UnsupportedOperationException|NoSuchElementException|RuntimeException";

    private RulesTest() {
    }

    public static void main(String[] args) throws IOException {
        String text = Files.readString(Path.of("src/main/java/WiringHouse.java"));
        String code = withoutTexts(text);
        face();
        members();
        words(code);
        library(code);
        exceptions(code);
        sizes(code);
        Desk.finish("RulesTest");
    }

    private static void broken(String what) {
        Desk.due(what, 1, 0);
    }

    /** The text without comments, and with what stands in quotes left out. */
    private static String withoutTexts(String text) {
        return text.replaceAll("(?s)/\\*.*?\\*/", "").replaceAll("//[^\n]*", "").replaceAll("\"(\\\\.|[^\"\\\\])*\"", "\"\"").replaceAll("'(\\\\.|[^'\\\\])'", "' '");
    }

    private static List<Class<?>> classes() {
        List<Class<?>> all = new ArrayList<>();
        all.add(WiringHouse.class);
        for (int i = 0; i < all.size(); i++) {
            all.addAll(Arrays.asList(all.get(i).getDeclaredClasses()));
        }
        return all;
    }

    private static void face() {
        Desk.says("1. The face: the class of the document, public and final, with the public constructor, methods and constants of the document and no other");
        Class<?> c = WiringHouse.class;
        Desk.due("public and final", Modifier.isPublic(c.getModifiers()) && Modifier.isFinal(c.getModifiers()), true);
        Constructor<?>[] constructors = c.getDeclaredConstructors();
        Desk.due("constructors", constructors.length, 1);
        Desk.due("the constructor is public", Modifier.isPublic(constructors[0].getModifiers()), true);
        Set<String> due = new TreeSet<>(Arrays.asList(FACE));
        Set<String> found = new TreeSet<>();
        Set<String> names = new TreeSet<>();
        for (Method m : c.getDeclaredMethods()) {
            if (Modifier.isPublic(m.getModifiers())) {
                String parameters = Arrays.toString(m.getParameterTypes());
                found.add(m.getReturnType() + " " + m.getName() + "(" + parameters.substring(1, parameters.length() - 1) + ")");
                names.add(m.getName());
                Desk.due(m.getName() + " is of an object", Modifier.isStatic(m.getModifiers()), false);
            }
        }
        Desk.due("public methods: " + found, found.equals(due), true);
        for (Method m : c.getDeclaredMethods()) {
            if (!Modifier.isPublic(m.getModifiers()) && !m.isSynthetic()) {
                Desk.due(m.getName() + " is private", Modifier.isPrivate(m.getModifiers()), true);
                Desk.due(m.getName() + " bears a name of the face", names.contains(m.getName()), false);
            }
        }
        for (Field f : c.getDeclaredFields()) {
            boolean isPublic = Modifier.isPublic(f.getModifiers());
            Desk.due(f.getName() + " is public", isPublic, f.getName().equals("NONE"));
            Desk.due(f.getName() + " is seen from outside", isPublic || Modifier.isPrivate(f.getModifiers()), true);
        }
        Desk.due("NONE", WiringHouse.NONE, -1);
    }

    private static void members() {
        for (Class<?> c : classes()) {
            Desk.says("2. Classes inside: static nested classes ..");
            if (c != WiringHouse.class) {
                int m = c.getModifiers();
                Desk.due(c.getName() + " is static, private or package-visible", Modifier.isStatic(m) && !Modifier.isPublic(m) && !Modifier.isProtected(m), true);
            }
            int fields = 0;
            for (Field f : c.getDeclaredFields()) {
                boolean isStatic = Modifier.isStatic(f.getModifiers());
                fields += isStatic ? 0 : 1;
                Desk.says("3. Types");
                Desk.due(c.getName() + "." + f.getName() + " is of a type that is left", isLeft(f.getType()), true);
                Desk.says("5. Static fields are final: constants of int, long, boolean, char or String ..");
                Desk.due(c.getName() + "." + f.getName() + " is a constant", !isStatic || Modifier.isFinal(f.getModifiers()) && (f.getType().isPrimitive() || f.getType() == String.class), true);
            }
            Desk.says("11. a class some twenty fields beside its constants");
            Desk.due("fields of " + c.getName() + ": " + fields, fields <= 20, true);
            Desk.says("11. A method takes at most seven parameters");
            for (Method m : c.getDeclaredMethods()) {
                Desk.due(c.getName() + "." + m.getName(), m.getParameterCount() <= 7, true);
            }
        }
        Desk.says("11. the file has at most some twelve classes");
        Desk.due("classes: " + classes().size(), classes().size() <= 12, true);
    }

    private static boolean isLeft(Class<?> type) {
        if (type.isArray()) {
            Class<?> of = type.getComponentType();
            return of.isPrimitive() || of.getName().startsWith("WiringHouse") || of.isArray() && of.getComponentType().isPrimitive();
        }
        return type.isPrimitive() || type == String.class || type.getName().startsWith("WiringHouse");
    }

    private static void words(String code) {
        Desk.says("LANGUAGE.md: what is left out");
        for (String word : new String[] {"package", "finally", "synchronized", "assert", "volatile", "native", "var", "Thread", "Random", "Object", "hashCode", "toString", "getMessage", "instanceof"}) {
            Desk.due(word, Pattern.compile("\\b" + word + "\\b").matcher(code).find(), false);
        }
        for (String sign : new String[] {"->", "::", "try (", "@", "protected "}) {
            Desk.due(sign, code.contains(sign), false);
        }
        Desk.due("a static block", Pattern.compile("\\bstatic\\s*\\{").matcher(code).find(), false);
        Matcher imports = Pattern.compile("import ([\\w.*]+);").matcher(code);
        while (imports.find()) {
            if (!imports.group(1).matches("java\\.util\\.(Arrays|NoSuchElementException|ArrayList|List|Iterator)")) {
                broken("import " + imports.group(1));
            }
        }
    }

    private static void library(String code) {
        Desk.says("4. The library: only what stands here");
        Matcher calls = Pattern.compile("\\b(Arrays|System|Math|Integer|Long)\\.(\\w+)\\(").matcher(code);
        while (calls.find()) {
            String owner = calls.group(1);
            String name = calls.group(2);
            boolean isLeft = owner.equals("Arrays") ? name.matches("copyOf|copyOfRange|fill") : owner.equals("System") ? name.equals("arraycopy") : !name.endsWith("Exact");
            if (!isLeft) {
                broken(owner + "." + name);
            }
        }
        Desk.due("java. within the code", code.replaceAll("import [^;]*;", "").contains("java."), false);
    }

    private static void exceptions(String code) {
        Desk.says("6. Exceptions: throw new E() or throw new E(\"a written text\") ..");
        Matcher thrown = Pattern.compile("\\bthrow\\b([^;]*);").matcher(code);
        while (thrown.find()) {
            if (!thrown.group(1).matches(" new (" + EXCEPTIONS + ")\\((\"\")?\\)")) {
                broken("throw" + thrown.group(1));
            }
        }
        Desk.due("no exception is caught", code.contains("catch"), false);
    }

    private static void sizes(String code) {
        Desk.says("11. Methods stay short (some sixty lines)");
        Matcher heads = Pattern.compile("(?m)^( {4}| {8})(?:(?:public|private|static|final) )*[\\w\\[\\]]+ ?\\w*\\([^;{]*\\)[^;{]*\\{$").matcher(code);
        int methods = 0;
        while (heads.find()) {
            int end = code.indexOf("\n" + heads.group(1) + "}", heads.end());
            long lines = code.substring(heads.start(), end).lines().count() + 1;
            methods++;
            Desk.due("lines of" + heads.group().replaceAll("\\s+", " "), lines <= 60, true);
        }
        Desk.due("methods were found", methods > 100, true);
        Desk.says("9. Every loop has an end that can be seen from its own lines");
        Desk.due("while (true)", Pattern.compile("while \\(true\\)|for \\(;;|for \\([^;]*;\\s*;").matcher(code).find(), false);
    }
}
