import java.lang.reflect.Method;
import java.lang.reflect.Modifier;
import java.nio.file.Files;
import java.nio.file.Path;
import java.util.ArrayList;
import java.util.List;
import java.util.Set;
import java.util.TreeSet;
import java.util.regex.Matcher;
import java.util.regex.Pattern;

/** README.md is run: each call in its examples gives the answer told beside it; each call and each test is named. */
public final class ReadmeTest {
    private static final Pattern EXAMPLES = Pattern.compile("(?s)```java\n(.*?)```");
    private static final Pattern CALL = Pattern.compile("x\\.(\\w+)\\(([^)]*)\\); *// (-?\\w+):? ?.*");
    private static final Due DUE = new Due("ReadmeTest");

    public static void main(String[] args) throws Exception {
        String readme = Files.readString(Path.of("README.md"));
        Set<String> shown = new TreeSet<>();
        Matcher examples = EXAMPLES.matcher(readme);
        while (examples.find()) play(examples.group(1), shown);
        DUE.is("examples show each call: " + shown, 1, shown.equals(face()) ? 1 : 0);
        testsAreNamed(readme);
        DUE.end();
    }

    private static Set<String> face() {
        Set<String> names = new TreeSet<>();
        for (Method m : RoomWatch.class.getDeclaredMethods()) {
            if (Modifier.isPublic(m.getModifiers())) names.add(m.getName());
        }
        return names;
    }

    private static void play(String example, Set<String> shown) throws Exception {
        RoomWatch x = null;
        for (String row : example.split("\n")) {
            Matcher call = CALL.matcher(row);
            if (row.equals("RoomWatch x = new RoomWatch();")) {
                x = new RoomWatch();
            } else if (x != null && call.matches()) {
                shown.add(call.group(1));
                DUE.is(row, number(call.group(3)), answer(x, call.group(1), call.group(2)));
            } else {
                DUE.is("a row of an example is a new object, or a call with its answer: " + row, 1, 0);
            }
        }
    }

    private static int answer(RoomWatch x, String name, String arguments) throws Exception {
        List<Object> values = new ArrayList<>();
        for (String each : arguments.split(", *")) {
            if (!each.isEmpty()) values.add(number(each));
        }
        for (Method m : RoomWatch.class.getDeclaredMethods()) {
            if (Modifier.isPublic(m.getModifiers()) && m.getName().equals(name)) return (Integer) m.invoke(x, values.toArray());
        }
        throw new IllegalArgumentException(name);
    }

    /** A number, or the name of a constant. */
    private static int number(String word) throws Exception {
        String bare = word.replace("RoomWatch.", "");
        return Character.isUpperCase(bare.charAt(0)) ? RoomWatch.class.getField(bare).getInt(null) : Integer.decode(bare);
    }

    private static void testsAreNamed(String readme) throws Exception {
        try (var files = Files.list(Path.of("src/test/java"))) {
            for (Path each : files.toList()) {
                String name = each.getFileName().toString().replace(".java", "");
                DUE.is("README.md names " + name, 1, readme.contains("`" + name + "`") ? 1 : 0);
            }
        }
    }
}
