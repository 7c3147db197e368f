import java.io.IOException;
import java.nio.file.Files;
import java.nio.file.Path;

/**
 * Answers that are due, each under the sentence of the document that it holds to. A sentence that the document
 * does not say is told, and so is one that it says and no test names: so each has a test of its own.
 */
final class Sentences {
    /** The terms are told under 0, what the document says ahead of them under 49. */
    static final int TERMS = 0, AHEAD = 49;

    static final int BAD = -1000000001, NO = -1000000002, FULL = -1000000003, NONE = -1000000005,
        NOTHING = -1000000011, KIND = -1000000012, INDEX = -1000000013, SIZE = -1000000014;
    static final int MIN = Integer.MIN_VALUE, MAX = Integer.MAX_VALUE;

    private final Due due = new Due("BoundaryTest");
    private final String[] parts = new String[AHEAD + 1];
    private final boolean[][] held = new boolean[AHEAD + 1][];
    private String sentence = "";
    private int answers = 1;

    Sentences(String shared) throws IOException {
        String doc = Files.readString(Path.of(shared, "DOC.md"))
            .replace("&lt;", "<").replace("&gt;", ">").replace("&amp;", "&").replace("```text", "```");
        for (int k = 1; k < AHEAD; k++) {
            String part = between(doc, "## Promise " + k + ":", "\n## ");
            parts[k] = plain(part.substring(part.indexOf("`: ") + 3));
        }
        parts[TERMS] = plain(between(doc, "## Terms", "Ahead of the calls"));
        parts[AHEAD] = plain(between(doc, "An object is used", "## The public face"));
        for (int k = 0; k <= AHEAD; k++) held[k] = new boolean[parts[k].length()];
    }

    private static String between(String doc, String from, String to) {
        int start = doc.indexOf(from);
        int end = doc.indexOf(to, start + from.length());
        return start < 0 || end < 0 ? "`: " : doc.substring(from.startsWith("##") ? start + from.length() : start, end);
    }

    private static String plain(String part) {
        return part.replaceAll("={8} \\d", " ").replace("```", " ").replaceAll("\\s+", " ").trim();
    }

    /** What is due from here on holds to these words. */
    void holds(int promise, String words) {
        due.is(sentence + "it is tested", 1, answers > 0 ? 1 : 0);
        answers = 0;
        int at = parts[promise].indexOf(words);
        due.is("the document says under " + promise + " '" + words + "'", 1, at >= 0 ? 1 : 0);
        for (int k = 0; k < words.length() && at >= 0; k++) held[promise][at + k] = true;
        sentence = "promise " + promise + " '" + words + "': ";
    }

    void is(String call, long want, long got) {
        answers++;
        due.is(sentence + call, want, got);
    }

    /** A call that is refused answers this, and all else is as if it had not been. */
    void refuses(String call, int want, States.Run before, States.Call tried) {
        for (int part = 0; part < States.PARTS; part++) {
            RoomWatch x = States.after(before);
            is(call, want, tried.on(x));
            same(call, part, before, x);
        }
    }

    /** A call that only tells, or thinks: all is as if it had not been. */
    void quiet(String call, States.Run before, States.Call tried) {
        for (int part = 0; part < States.PARTS; part++) {
            RoomWatch x = States.after(before);
            int first = tried.on(x);
            is(call + " again", first, tried.on(x));
            same(call, part, before, x);
        }
    }

    /** A call that does something leaves all parts of a state but these as they were. */
    void leaves(String call, States.Run before, States.Call done, int... changed) {
        for (int part = 0; part < States.PARTS; part++) {
            boolean changes = false;
            for (int each : changed) changes |= each == part;
            if (changes) continue;
            RoomWatch x = States.after(before);
            done.on(x);
            same(call, part, before, x);
        }
    }

    /** A call that is refused, but uses up what one part of a state tells. */
    void spends(String call, int want, int spent, States.Run before, States.Call tried) {
        for (int part = 0; part < States.PARTS; part++) {
            RoomWatch x = States.after(before);
            is(call, want, tried.on(x));
            if (part == spent) {
                is(call + " uses it up", 0, x.count(spent == States.TAPE ? 6 : 5));
            } else {
                same(call, part, before, x);
            }
        }
    }

    private void same(String call, int part, States.Run before, RoomWatch x) {
        int[] untouched = States.told(part, States.after(before));
        int[] now = States.told(part, x);
        for (int k = 0; k < untouched.length; k++) {
            is(call + " changes nothing there, part " + part + ", answer " + k, untouched[k], now[k]);
        }
    }

    /** The first wrong number on either side, and the farthest. */
    static int[] outside(int least, int most) {
        return new int[] {least - 1, most + 1, MIN, MAX};
    }

    void end() {
        for (int k = 0; k <= AHEAD; k++) {
            StringBuilder bare = new StringBuilder();
            for (int at = 0; at < parts[k].length(); at++) bare.append(held[k][at] ? ' ' : parts[k].charAt(at));
            String rest = bare.toString().replaceAll("[\\s.;:,]+", " ").trim();
            due.is("under " + k + " there is no test of '" + rest + "'", 1, rest.isEmpty() ? 1 : 0);
        }
        due.end();
    }
}
