import java.util.HashMap;
import java.util.Map;

/** Runs of calls that bring an object into a state, and rows of answers that tell a state. */
final class States {
    interface Run {
        void on(RoomWatch x);
    }

    interface Call {
        int on(RoomWatch x);
    }

    /** Parts of a state; telling one may use the object up, so each is told by an object of its own. */
    static final int ROOM = 0, TEXTS = 1, SHEETS = 2, SLOTS = 3, IMAGE = 4, IMAGE_TEXTS = 5, WAITING = 6, TAPE = 7, PARTS = 8;

    /** A new object. */
    static final Run BARE = x -> { };

    /** Something of everything: what is there and what is not can both be asked for. */
    static final Run RICH = States::rich;

    /** As much as there may be of everything. */
    static final Run PACKED = States::packed;

    /** RICH: a POST of each KIND by its number, in these CELLS. */
    static final int[] RICH_CELLS = {9, 20, 33, 40, 47, 5};
    static final int[] RICH_WALLS = {10, 22, 36};
    static final int RICH_THIEF = 30;

    private static final Map<String, int[]> NUMBERS = new HashMap<>();

    private States() {
    }

    static RoomWatch after(Run run) {
        RoomWatch x = new RoomWatch();
        run.on(x);
        return x;
    }

    private static void richRoom(RoomWatch x) {
        x.seed(77);
        x.thief(RICH_THIEF);
        for (int cell : RICH_WALLS) x.wall(cell, 1);
        for (int kind = 0; kind < 6; kind++) {
            x.post(kind, RICH_CELLS[kind], kind % 4);
            x.set(kind, 3, 9 * kind + 3);
        }
        x.rule(0, 35);
        x.rule(1, 60);
        Due.text(x, "reach 4+s");
        Due.text(x, "fee c*2+u");
        Due.text(x, "fine t+c");
        x.hours(3);
    }

    private static void rich(RoomWatch x) {
        richRoom(x);
        x.keep();
        x.hours(4);
        x.thief(RICH_THIEF);
        x.rule(0, 45);
        Due.text(x, "fee u*5+c");
        x.sheet(0, 0, 3);
        for (int k = 0; k < 3; k++) x.mark(0, k, 40 * k - 3);
        x.sheet(1, 1, 5);
        for (int k = 0; k < 5; k++) x.mark(1, k, k == 2 ? RoomWatch.NONE : 11 * k);
        x.sheet(2, 1, 0);
        x.lay(1, 1, 3);
        x.lay(2, 2, 1);
        x.lay(3, 3, -17);
        tellHours(x, "rich", States::richRoom, 3);
        Due.tape(x, "fee 31*007");
    }

    private static void packedRoom(RoomWatch x) {
        x.seed(-5);
        x.thief(21);
        for (int k = 0; k < 8; k++) x.post(k % 6, 6 * k, k % 4);
        for (int cell = 1; cell < 48; cell += 2) x.wall(cell, 1);
        for (int k = 0; k < 14; k++) Due.text(x, k % 3 == 0 ? "reach 9" : k % 3 == 1 ? "fee 7" : "fine 3");
        x.hours(50);
    }

    private static void packed(RoomWatch x) {
        packedRoom(x);
        x.keep();
        x.thief(20);
        for (int k = 0; k < 4; k++) {
            x.sheet(k, k / 2, 24);
            for (int place = 0; place < 24; place += 7) x.mark(k, place, 5 * k + place);
        }
        x.lay(0, 1, 7);
        x.lay(1, 2, 1);
        x.lay(2, 2, 3);
        x.lay(3, 3, Integer.MIN_VALUE);
        x.lay(4, 1, 0);
        tellHours(x, "packed", States::packedRoom, 30);
        Due.tape(x, "fee " + "1+".repeat(45) + "1 ");
    }

    /** Right numbers wait then, so that check sees every one of them. */
    private static void tellHours(RoomWatch x, String name, Run room, int n) {
        int[] numbers = NUMBERS.computeIfAbsent(name, unused -> hoursTold(after(room), n));
        for (int v : numbers) x.tell(v);
    }

    static int[] hoursTold(RoomWatch x, int n) {
        int[] numbers = new int[2 * n];
        for (int k = 1; k <= n; k++) {
            numbers[2 * k - 2] = x.behind(k, 0);
            numbers[2 * k - 1] = x.behind(k, 4);
        }
        return numbers;
    }

    /** A row of answers as long as one part of a state needs. */
    private static final class Row {
        private final int[] answers = new int[200];
        private int length = 0;

        private void add(int answer) {
            answers[length++] = answer;
        }
    }

    static int[] told(int part, RoomWatch x) {
        Row row = new Row();
        switch (part) {
            case ROOM -> room(x, row);
            case TEXTS -> texts(x, row);
            case SHEETS -> sheets(x, row);
            case SLOTS -> slots(x, row);
            case IMAGE -> {
                row.add(x.back());
                room(x, row);
            }
            case IMAGE_TEXTS -> {
                row.add(x.back());
                texts(x, row);
            }
            case WAITING -> waiting(x, row);
            default -> tape(x, row);
        }
        int[] answers = new int[row.length];
        System.arraycopy(row.answers, 0, answers, 0, row.length);
        return answers;
    }

    private static void room(RoomWatch x, Row row) {
        for (int what : new int[] {0, 1, 2, 3, 4, 7}) row.add(x.count(what));
        for (int what = 0; what < 6; what++) row.add(x.room(what));
        for (int post = 0; post < 8; post++) {
            for (int what = 0; what < 8; what++) row.add(x.told(post, what));
        }
        for (int cell = 0; cell < 48; cell++) {
            row.add(x.at(cell, 0));
            row.add(x.at(cell, 1));
        }
    }

    private static void texts(RoomWatch x, Row row) {
        for (int text = 0; text < 14; text++) {
            row.add(x.textTold(text, 0));
            row.add(x.textTold(text, 1));
        }
        for (int key = 0; key < 3; key++) row.add(x.why(key));
        row.add(x.fee());
        for (int post = 0; post < 8; post++) {
            row.add(x.fine(post));
            row.add(x.told(post, 5));
        }
    }

    private static void sheets(RoomWatch x, Row row) {
        for (int sheet = 0; sheet < 4; sheet++) {
            x.lay(0, 0, 0);
            row.add(x.lay(0, 2, sheet));
            for (int place = 0; place <= 24; place++) row.add(x.item(0, place));
            row.add(x.mark(sheet, 0, RoomWatch.NONE));
        }
    }

    private static void slots(RoomWatch x, Row row) {
        for (int slot = 0; slot < 5; slot++) {
            for (int kind = 0; kind < 6; kind++) row.add(x.ask(slot, kind));
            for (int place = 0; place <= 24; place++) row.add(x.item(slot, place));
            row.add(x.rest(slot, 65536));
            row.add(x.rest(slot, Integer.MAX_VALUE));
            row.add(x.lay(slot, 0, 0));
        }
    }

    private static void waiting(RoomWatch x, Row row) {
        row.add(x.count(5));
        row.add(x.check(Math.max(1, x.count(5) / 2)));
    }

    /** What number the text has is no matter of THE TAPE. */
    private static void tape(RoomWatch x, Row row) {
        row.add(x.count(6));
        row.add(Math.min(0, x.text()));
        row.add(x.fee());
    }
}
