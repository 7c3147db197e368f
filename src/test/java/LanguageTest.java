import java.lang.reflect.Constructor;
import java.lang.reflect.Field;
import java.lang.reflect.Member;
import java.lang.reflect.Method;
import java.lang.reflect.Modifier;
import java.nio.file.Files;
import java.nio.file.Path;
import java.util.ArrayList;
import java.util.List;
import java.util.Set;
import java.util.TreeSet;
import java.util.regex.Matcher;
import java.util.regex.Pattern;

/** Rules of LANGUAGE.md that can be seen from the compiled class and from the words of its source. */
public final class LanguageTest {
    private static final Due DUE = new Due("LanguageTest");
    private static final int MOST_LINES = 60, MOST_CLASSES = 12, MOST_FIELDS = 20, MOST_PARAMETERS = 7;

    public static void main(String[] args) throws Exception {
        String doc = Files.readString(Path.of(args.length > 0 ? args[0] : "../shared", "DOC.md"));
        String source = Files.readString(Path.of("src/main/java/RoomWatch.java"));
        Set<String> face = face(doc);
        publicFace(face);
        for (Class<?> each : classes()) members(each, face);
        words(source);
        lines(source);
        DUE.end();
    }

    private static void holds(String rule, boolean is) {
        DUE.is(rule, 1, is ? 1 : 0);
    }

    private static List<Class<?>> classes() {
        List<Class<?>> all = new ArrayList<>(List.of(RoomWatch.class));
        all.addAll(List.of(RoomWatch.class.getDeclaredClasses()));
        holds("11 classes", all.size() <= MOST_CLASSES);
        return all;
    }

    private static Set<String> face(String doc) {
        Set<String> face = new TreeSet<>();
        Matcher m = Pattern.compile("public int (\\w+)\\(([^)]*)\\);").matcher(doc);
        while (m.find()) face.add(m.group(1) + "/" + (m.group(2).isEmpty() ? 0 : m.group(2).split(",").length));
        DUE.is("calls that the document names", 47, face.size());
        return face;
    }

    private static void publicFace(Set<String> face) {
        Set<String> mine = new TreeSet<>();
        for (Method m : RoomWatch.class.getDeclaredMethods()) {
            if (Modifier.isPublic(m.getModifiers())) mine.add(m.getName() + "/" + m.getParameterCount());
        }
        holds("1 the face is " + face + ", mine is " + mine, face.equals(mine));
        holds("1 public and final", Modifier.isPublic(RoomWatch.class.getModifiers()) && Modifier.isFinal(RoomWatch.class.getModifiers()));
        Set<String> constants = new TreeSet<>();
        for (Field f : RoomWatch.class.getFields()) constants.add(f.getName());
        holds("1 constants " + constants, constants.equals(Set.of("BAD", "NO", "FULL", "NONE", "NOTHING", "KIND", "INDEX", "SIZE")));
        List<Member> all = new ArrayList<>(List.of(RoomWatch.class.getDeclaredMethods()));
        all.addAll(List.of(RoomWatch.class.getDeclaredFields()));
        all.addAll(List.of(RoomWatch.class.getDeclaredConstructors()));
        for (Member m : all) {
            holds("1 " + m.getName() + " is public or private", Modifier.isPublic(m.getModifiers()) || Modifier.isPrivate(m.getModifiers()));
        }
    }

    private static void members(Class<?> each, Set<String> face) {
        boolean outer = each == RoomWatch.class;
        holds("2 " + each + " is static and not public", outer || Modifier.isStatic(each.getModifiers()) && !Modifier.isPublic(each.getModifiers()));
        for (Method m : each.getDeclaredMethods()) {
            boolean isFace = outer && Modifier.isPublic(m.getModifiers());
            boolean likeFace = face.stream().anyMatch(f -> f.startsWith(m.getName() + "/"));
            holds("1 no other method is named " + m.getName(), isFace || !likeFace);
            holds("11 parameters of " + m.getName(), m.getParameterCount() <= MOST_PARAMETERS);
            holds("2 no made-up method " + m.getName(), !m.isSynthetic());
        }
        for (Constructor<?> c : each.getDeclaredConstructors()) {
            holds("11 parameters of a constructor", c.getParameterCount() <= MOST_PARAMETERS);
        }
        int own = 0;
        for (Field f : each.getDeclaredFields()) {
            boolean isStatic = Modifier.isStatic(f.getModifiers());
            boolean plain = Set.of("int", "long", "boolean", "char", "String", "int[]", "long[]", "char[]", "byte[]").contains(f.getType().getSimpleName());
            holds("5 static " + f.getName(), !isStatic || Modifier.isFinal(f.getModifiers()) && plain);
            own += isStatic ? 0 : 1;
        }
        holds("11 fields of " + each, own <= MOST_FIELDS);
    }

    private static void words(String source) {
        String bare = source.replaceAll("(?s)/\\*.*?\\*/", " ").replaceAll("//[^\n]*", " ").replaceAll("\"[^\"\n]*\"", "\"\"");
        String[] none = {"\\bthrows?\\b", "\\btry\\b", "\\bcatch\\b", "\\bsynchronized\\b", "\\bassert\\b", "\\bimport\\b", "\\bpackage\\b",
            "\\bprotected\\b", "\\binterface\\b", "->", "::", "\\w+Exact\\b", "static\\s*\\{", "\\bThread\\b", "\\brecord\\b", "@", "\"\\s*\\+",
            "\\+\\s*\"", "\\bhashCode\\b", "\\btoString\\b", "\\bwhile\\s*\\(true", "\\bfor\\s*\\(;;", "\\bfloat\\b", "\\bdouble\\b"};
        for (String word : none) holds("no " + word, !Pattern.compile(word).matcher(bare).find());
        Matcher calls = Pattern.compile("\\b([A-Z]\\w+)\\.(\\w+)\\(").matcher(bare);
        Set<String> library = Set.of("Math.abs", "Math.max", "Math.min", "Math.floorDiv", "Long.bitCount", "Integer.bitCount", "System.arraycopy");
        while (calls.find()) holds("4 " + calls.group(), library.contains(calls.group(1) + "." + calls.group(2)));
        for (char c : source.toCharArray()) {
            if (c > 127 || c < 32 && c != '\n') holds("3 sign " + (int) c, false);
        }
    }

    /** By the file's own layout: a method begins and ends in the same column. */
    private static void lines(String source) {
        String[] rows = source.split("\n");
        for (int from = 0; from < rows.length; from++) {
            Matcher head = Pattern.compile("^( {4}| {8})\\S.*\\) \\{$").matcher(rows[from]);
            if (!head.find()) continue;
            int to = from;
            while (to < rows.length && !rows[to].equals(head.group(1) + "}")) to++;
            holds("11 lines of " + rows[from].trim(), to - from + 1 <= MOST_LINES);
        }
    }
}
