import java.lang.reflect.Method;
import java.util.ArrayList;
import java.util.HashMap;
import java.util.List;
import java.util.Map;
import java.util.Random;

/** Runs of calls by lot, each held against Model; the seeds are fixed, so every run of this test is the same. */
public final class ModelTest {
    private static final int CALLS = 512;

    /** For each call the ranges that its arguments are mostly drawn from, least and most by turns. */
    private static final Map<String, int[]> RANGES = new HashMap<>();
    static {
        RANGES.put("post", new int[] {0, 5, 0, 47, 0, 3});
        RANGES.put("told", new int[] {0, 7, 0, 7});
        RANGES.put("as", new int[] {0, 7, 0, 5});
        RANGES.put("turns", new int[] {0, 7, 0, 5});
        RANGES.put("set", new int[] {0, 7, 2, 3, 0, 99});
        RANGES.put("moves", new int[] {0, 7, 0, 47});
        RANGES.put("wall", new int[] {0, 47, 0, 1});
        RANGES.put("at", new int[] {0, 47, 0, 1});
        RANGES.put("thief", new int[] {0, 47});
        RANGES.put("rule", new int[] {0, 1, 0, 100});
        RANGES.put("deal", new int[] {1, 8});
        RANGES.put("seed", new int[] {Integer.MIN_VALUE, Integer.MAX_VALUE});
        RANGES.put("sees", new int[] {0, 7, 0, 47});
        RANGES.put("row", new int[] {0, 7, 0, 5});
        RANGES.put("watched", new int[] {0, 3});
        RANGES.put("spare", new int[] {0, 7});
        RANGES.put("fewest", new int[] {0, 1});
        RANGES.put("stand", new int[] {0, 5, 0, 3, 0, 1});
        RANGES.put("sneak", new int[] {0, 47, 0, 47});
        RANGES.put("hours", new int[] {1, 100});
        RANGES.put("room", new int[] {0, 5});
        RANGES.put("behind", new int[] {0, 100, 0, 12});
        RANGES.put("catches", new int[] {});
        RANGES.put("faces", new int[] {0, 7, 1, 60, 0, 1});
        RANGES.put("becomes", new int[] {0, 7, 1, 60, 0, 1});
        RANGES.put("like", new int[] {0, 3, 0, 1});
        RANGES.put("fee", new int[] {});
        RANGES.put("fine", new int[] {0, 7});
        RANGES.put("feed", new int[] {Integer.MIN_VALUE, Integer.MAX_VALUE, Integer.MIN_VALUE, Integer.MAX_VALUE, Integer.MIN_VALUE, Integer.MAX_VALUE});
        RANGES.put("trim", new int[] {0, 96});
        RANGES.put("text", new int[] {});
        RANGES.put("textTold", new int[] {0, 13, 0, 1});
        RANGES.put("why", new int[] {0, 2});
        RANGES.put("sheet", new int[] {0, 3, 0, 1, 0, 24});
        RANGES.put("mark", new int[] {0, 3, 0, 12, -120, 120});
        RANGES.put("pour", new int[] {0, 3});
        RANGES.put("reads", new int[] {0, 3});
        RANGES.put("copy", new int[] {0, 3, 0, 12, 0, 3, 0, 12, 0, 12});
        RANGES.put("lay", new int[] {0, 4, 0, 3, 0, 7});
        RANGES.put("ask", new int[] {0, 4, 0, 5});
        RANGES.put("item", new int[] {0, 4, 0, 12});
        RANGES.put("rest", new int[] {0, 4, -9, 9});
        RANGES.put("tell", new int[] {-9, 99});
        RANGES.put("check", new int[] {1, 30});
        RANGES.put("keep", new int[] {});
        RANGES.put("back", new int[] {});
        RANGES.put("count", new int[] {0, 7});
    }

    private static final String[] SHEET_NAMES = {"mark", "mark", "mark", "copy", "lay", "lay", "item", "item", "reads", "pour", "like", "ask", "rest"};

    private static final int[] ODD = {-1, 0, 1, 100, -100, 25, 60, 61, 32767, -32768, 40000, 99999, -99999, 100000,
        -100000, Integer.MAX_VALUE, Integer.MIN_VALUE, Model.NONE, Model.BAD};

    private final Random lot;
    private final RoomWatch room = new RoomWatch();
    private final Model model = new Model();
    private final List<String> calls = new ArrayList<>();
    private static final Map<String, Method[]> METHODS = new HashMap<>();
    private static final List<String> NAMES = new ArrayList<>();

    private ModelTest(long seed) {
        lot = new Random(seed);
    }

    public static void main(String[] args) throws Exception {
        Due due = new Due("ModelTest");
        for (Method m : RoomWatch.class.getDeclaredMethods()) {
            if (java.lang.reflect.Modifier.isPublic(m.getModifiers())) {
                METHODS.put(m.getName(), new Method[] {m, Model.class.getMethod(m.getName(), m.getParameterTypes())});
                NAMES.add(m.getName());
            }
        }
        NAMES.sort(null);
        due.is("calls of the face", 47, NAMES.size());
        int runs = args.length > 1 ? Integer.parseInt(args[1]) : 300;
        for (int seed = 1; seed <= runs && due.wrong() < 10; seed++) {
            new ModelTest(seed).run(due, seed);
        }
        due.end();
    }

    /** Runs differ in what they do most, so that full rooms, many walls and late hours all come. */
    private void run(Due due, int seed) throws Exception {
        boolean late = seed % 10 == 0;
        boolean walled = seed % 3 == 0;
        boolean onSheets = seed % 4 == 1;
        if (seed % 5 > 0) {
            due.is("run " + seed + ", its beginning", 0, begin(seed % 5 > 2) == null ? 0 : 1);
        }
        while (calls.size() < CALLS - 70) {
            String wrong = null;
            int what = lot.nextInt(100);
            if (what < 6) {
                wrong = tellText();
            } else if (what < 8) {
                wrong = tellHours();
            } else if (what < 22 && walled) {
                wrong = call("wall", lot.nextInt(48), 1);
            } else if (what < 50 && late) {
                wrong = call("hours", 100);
            } else if (what < 70 && onSheets) {
                wrong = lot.nextInt(3) == 0 ? markNoNumber() : callOf(SHEET_NAMES);
            } else {
                String name = NAMES.get(lot.nextInt(NAMES.size()));
                boolean rare = "back sheet deal text seed trim".contains(name);
                if (rare && lot.nextInt(4) > 0) continue;
                wrong = call(name, someArguments(name));
            }
            due.is("run " + seed + (wrong == null ? "" : ": " + wrong), 0, wrong == null ? 0 : 1);
            if (wrong != null) return;
        }
        for (int what = 0; what < 8; what++) {
            String wrong = call("count", what);
            due.is("run " + seed + " at the end: " + wrong, 0, wrong == null ? 0 : 1);
        }
    }

    private String callOf(String[] names) throws Exception {
        String name = names[lot.nextInt(names.length)];
        return call(name, someArguments(name));
    }

    private String markNoNumber() throws Exception {
        return call("mark", lot.nextInt(4), lot.nextInt(12), Model.NONE);
    }

    /** Posts and sheets, so that later calls find some; in a full room nearly every cell has a wall. */
    private String begin(boolean full) throws Exception {
        String wrong = call("seed", lot.nextInt());
        for (int cell = 0; cell < 48 && full && wrong == null; cell++) {
            wrong = lot.nextInt(8) > 0 ? call("wall", cell, 1) : null;
        }
        if (wrong == null) wrong = call("deal", 1 + lot.nextInt(8));
        for (int sheet = 0; sheet < 4 && wrong == null; sheet++) {
            wrong = call("sheet", sheet, sheet / 2, lot.nextInt(25));
        }
        return wrong;
    }

    private int[] someArguments(String name) {
        int[] range = RANGES.get(name);
        int[] v = new int[range.length / 2];
        for (int k = 0; k < v.length; k++) {
            long least = range[2 * k], most = range[2 * k + 1];
            int how = lot.nextInt(20);
            if (how == 0) {
                v[k] = ODD[lot.nextInt(ODD.length)];
            } else if (how == 1) {
                v[k] = (int) (lot.nextBoolean() ? least - 1 : most + 1);
            } else {
                v[k] = (int) (least + (long) (lot.nextDouble() * (most - least + 1)));
            }
        }
        return v;
    }

    /** What differed, or null. */
    private String call(String name, int... arguments) throws Exception {
        Object[] boxed = new Object[arguments.length];
        for (int k = 0; k < boxed.length; k++) boxed[k] = arguments[k];
        StringBuilder told = new StringBuilder(name).append('(');
        for (int k = 0; k < boxed.length; k++) told.append(k == 0 ? "" : ", ").append(boxed[k]);
        calls.add(told.append(')').toString());
        Object want = METHODS.get(name)[1].invoke(model, boxed);
        Object got = METHODS.get(name)[0].invoke(room, boxed);
        return want.equals(got) ? null : told + " answered " + got + ", due is " + want + ", behind " + calls;
    }

    private String tellText() throws Exception {
        StringBuilder b = new StringBuilder(lot.nextInt(30) == 0 ? "feet" : List.of("reach", "fee", "fine").get(lot.nextInt(3)));
        String names = b.charAt(0) == 'r' ? "tsh" : b.charAt(1) == 'e' ? "cu" : "tc";
        if (lot.nextInt(20) > 0) b.append(' ');
        b.append(expression(names, lot.nextInt(5)));
        if (lot.nextInt(4) == 0) b.insert(0, ' ');
        if (lot.nextInt(4) == 0) b.append("  ");
        if (lot.nextInt(3) == 0) {
            int at = lot.nextInt(b.length());
            char sign = " ()!&|<=>+-*/09atsA{`:~".charAt(lot.nextInt(23));
            if (lot.nextBoolean()) b.setCharAt(at, sign); else if (lot.nextBoolean()) b.insert(at, sign); else b.deleteCharAt(at);
        }
        if (lot.nextInt(20) == 0) b.setLength(lot.nextInt(b.length() + 1));
        if (b.length() > 96) b.setLength(96);
        return tellBytes(b.toString());
    }

    private String tellBytes(String bytes) throws Exception {
        String wrong = call("trim", 0);
        for (int k = 0; k < bytes.length() && wrong == null; k += 12) {
            wrong = call("feed", Due.four(bytes, k), Due.four(bytes, k + 4), Due.four(bytes, k + 8));
        }
        if (wrong == null) wrong = call("trim", bytes.length());
        if (wrong == null) wrong = call("text");
        return wrong;
    }

    private String expression(String names, int depth) {
        if (depth == 0 || lot.nextInt(6) == 0) {
            return lot.nextBoolean() ? String.valueOf(names.charAt(lot.nextInt(names.length()))) : String.valueOf(lot.nextInt(lot.nextBoolean() ? 12 : 12000));
        }
        int how = lot.nextInt(10);
        if (how == 0) return "!" + expression(names, depth - 1);
        if (how == 1) return "(" + expression(names, depth - 1) + ")";
        if (how == 2) return "!!!!!!!!!(((((((((".substring(lot.nextInt(18)) + expression(names, depth - 1) + "))))))))))".substring(lot.nextInt(10));
        String gap = lot.nextInt(3) == 0 ? " " : "";
        return expression(names, depth - 1) + gap + "||&&<=>+-*/".charAt(lot.nextInt(11)) + gap + expression(names, depth - 1);
    }

    /** THE HOURS TOLD as they are, or nearly so. */
    private String tellHours() throws Exception {
        if (model.image == null || !model.waiting.isEmpty()) return call("check", 1 + lot.nextInt(30));
        int n = 1 + lot.nextInt(lot.nextBoolean() ? 3 : 30);
        List<Integer> rows = model.hoursTold(n);
        int how = lot.nextInt(4);
        if (how == 0 && !rows.isEmpty()) rows.set(lot.nextInt(rows.size()), lot.nextInt(9));
        if (how == 1 && !rows.isEmpty()) rows.remove(rows.size() - 1);
        if (how == 2) rows.add(0);
        String wrong = null;
        for (int k = 0; k < rows.size() && wrong == null && calls.size() < CALLS - 2; k++) wrong = call("tell", rows.get(k));
        return wrong != null ? wrong : call("check", n);
    }
}
