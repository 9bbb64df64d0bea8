import java.io.IOException;
import java.lang.reflect.InvocationTargetException;
import java.lang.reflect.Method;
import java.nio.file.Files;
import java.nio.file.Path;
import java.util.ArrayList;
import java.util.List;
import java.util.Set;
import java.util.TreeSet;
import java.util.regex.Matcher;
import java.util.regex.Pattern;

/** The calls that README.md shows are made, and must answer what it shows. */
final class ReadmeTest {
    private static final Pattern CALL = Pattern.compile("(\\w+)\\(([-0-9, ]*)\\) (?:= (\\S+)|throws (\\w+))(?: {2,}.*)?");
    private static final Pattern TELL = Pattern.compile("tell\\(\"(.*)\"\\)");
    private static final Set<String> SHOWN = new TreeSet<>();
    private static WiringHouse house = new WiringHouse();

    private ReadmeTest() {
    }

    public static void main(String[] args) throws IOException, IllegalAccessException {
        List<String> block = null;
        String kind = "";
        for (String line : Files.readAllLines(Path.of("README.md"))) {
            if (!line.startsWith("```")) {
                if (block != null) {
                    block.add(line);
                }
            } else if (block == null) {
                kind = line.substring(3);
                block = new ArrayList<>();
            } else {
                take(kind, block);
                block = null;
            }
        }
        Desk.due("a block that has no end", block != null, false);
        everyMethodIsShown();
        Desk.finish("ReadmeTest");
    }

    private static void take(String kind, List<String> block) throws IOException, IllegalAccessException {
        switch (kind) {
            case "book":
                tell(house, String.join("\n", block));
                break;
            case "java":
                String own = Files.readString(Path.of("src/test/java/ReadmeTest.java"));
                Desk.due("the java that is shown stands here", own.contains(("\n" + String.join("\n", block)).replace("\n", "\n    ")), true);
                break;
            case "calls":
                for (String line : block) {
                    takeLine(line);
                }
                break;
            default:
                Desk.due("a block of the kind " + kind, 1, 0);
        }
    }

    private static void takeLine(String line) throws IllegalAccessException {
        Matcher told = TELL.matcher(line);
        Matcher call = CALL.matcher(line);
        if (line.equals("new WiringHouse()")) {
            house = new WiringHouse();
        } else if (told.matches()) {
            tell(house, told.group(1));
        } else if (call.matches()) {
            String due = call.group(3) != null ? call.group(3) : call.group(4);
            String got = answer(call.group(1), call.group(2));
            Desk.due(line + " (answered " + got + "): as shown", got.equals(due.equals("NONE") ? "-1" : due), true);
        } else {
            Desk.due("a line that is no call: " + line, 1, 0);
        }
    }

    private static String answer(String name, String numbers) throws IllegalAccessException {
        SHOWN.add(name);
        String[] parts = numbers.isBlank() ? new String[0] : numbers.split(",");
        Object[] given = new Object[parts.length];
        for (int i = 0; i < parts.length; i++) {
            given[i] = Integer.valueOf(parts[i].strip());
        }
        for (Method method : WiringHouse.class.getDeclaredMethods()) {
            if (method.getName().equals(name) && method.getParameterCount() == parts.length) {
                try {
                    return String.valueOf(method.invoke(house, given));
                } catch (InvocationTargetException e) {
                    return e.getCause().getClass().getSimpleName();
                }
            }
        }
        return "no such method";
    }

    // As README.md shows it.
    static void tell(WiringHouse house, String text) {
        for (int i = 0; i < text.length(); i += 8) {
            long eight = 0;
            for (int k = i; k < i + 8; k++) {
                eight = eight << 8 | (k < text.length() ? text.charAt(k) : 0);
            }
            house.feed(eight, 0, 0);
        }
    }

    /** All but feed(), which is shown as Java. */
    private static void everyMethodIsShown() {
        for (Method method : WiringHouse.class.getMethods()) {
            if (method.getDeclaringClass() == WiringHouse.class && !method.getName().equals("feed")) {
                Desk.due(method.getName() + "() is shown", SHOWN.contains(method.getName()), true);
            }
        }
    }
}
