import java.util.ArrayDeque;
import java.util.ArrayList;
import java.util.Arrays;
import java.util.List;

/**
 * The document once more, written from its words with the whole Java library and without a thought for
 * room or speed: ModelTest holds RoomWatch against it. Methods bear the names of the document's face.
 */
public final class Model {
    static final int BAD = -1000000001, NO = -1000000002, FULL = -1000000003, NONE = -1000000005,
        NOTHING = -1000000011, KIND = -1000000012, INDEX = -1000000013, SIZE = -1000000014;

    static class Stool implements Cloneable {
        int cell, side, tired;
        int number() { return 0; }
        boolean looks(int rows, int cols) { return true; }
        int reaches(int plain) { return plain; }
        boolean awake(int hour) { return true; }
        int worth() { return tired; }
        Stool twin() { return made(number(), cell, side, tired); }
    }

    static class Wedge extends Stool {
        @Override int number() { return 1; }
        int ahead(int rows, int cols) { return new int[] {-rows, cols, rows, -cols}[side]; }
        int off(int rows, int cols) { return new int[] {cols, rows, cols, rows}[side]; }
        @Override boolean looks(int rows, int cols) {
            int ahead = ahead(rows, cols);
            return ahead > 0 && ahead >= Math.abs(off(rows, cols));
        }
        @Override int reaches(int plain) { return super.reaches(plain) + 2; }
        @Override int worth() { return super.worth() + 4; }
    }

    static final class Slit extends Wedge {
        @Override int number() { return 3; }
        @Override boolean looks(int rows, int cols) { return super.looks(rows, cols) && off(rows, cols) == 0; }
        @Override int reaches(int plain) { return 2 * super.reaches(plain); }
        @Override int worth() { return 2 * super.worth(); }
    }

    static class Lamp extends Stool {
        @Override int number() { return 2; }
        @Override boolean awake(int hour) { return hour % 2 == 0; }
        @Override int worth() { return 99 - tired; }
    }

    static final class Door extends Lamp {
        @Override int number() { return 4; }
        @Override boolean looks(int rows, int cols) {
            return super.looks(rows, cols) && Math.abs(rows) + Math.abs(cols) <= 2;
        }
        @Override boolean awake(int hour) { return super.awake(hour) || hour % 3 == 0; }
        @Override int worth() { return super.worth() - 6; }
    }

    static final class Dozer extends Stool {
        @Override int number() { return 5; }
        @Override boolean awake(int hour) { return tired < 50; }
        @Override int worth() { return 3; }
    }

    static final List<Class<? extends Stool>> CLASSES =
        List.of(Stool.class, Wedge.class, Lamp.class, Slit.class, Door.class, Dozer.class);

    static Stool made(int kind, int cell, int side, int tired) {
        Stool s;
        switch (kind) {
            case 0: s = new Stool(); break;
            case 1: s = new Wedge(); break;
            case 2: s = new Lamp(); break;
            case 3: s = new Slit(); break;
            case 4: s = new Door(); break;
            default: s = new Dozer();
        }
        s.cell = cell;
        s.side = side;
        s.tired = tired;
        return s;
    }

    /** What a TEXT works out, over the values of its names. */
    interface Expr { int of(java.util.Map<Character, Integer> names); }

    static final class Law {
        int key, leaves;
        Expr expr;
    }

    static final class State {
        List<Stool> posts = new ArrayList<>();
        boolean[] walls = new boolean[48];
        int thief = 0, stealth = 20, tires = 30, caught = 0, unseen = 0, hour = 0, z = 1;
        List<Law> laws = new ArrayList<>();

        State twin() {
            State t = new State();
            for (Stool p : posts) t.posts.add(p.twin());
            t.walls = walls.clone();
            t.thief = thief;
            t.stealth = stealth;
            t.tires = tires;
            t.caught = caught;
            t.unseen = unseen;
            t.hour = hour;
            t.z = z;
            t.laws = new ArrayList<>(laws);
            return t;
        }

        int draw() {
            z = (int) ((long) z * 1103515245L + 12345L);
            return z >>> 8;
        }

        Law law(int key) {
            Law found = null;
            for (Law l : laws) if (l.key == key) found = l;
            return found;
        }

        int reach(Stool p) {
            Law l = law(0);
            int plain = l == null ? 5 : l.expr.of(java.util.Map.of('t', p.tired, 's', p.side, 'h', hour));
            return p.reaches(plain < 0 ? 0 : plain > 99 ? 99 : plain);
        }

        boolean sees(Stool p, int cell) {
            if (p.cell == cell) return true;
            if (walls[cell]) return false;
            int d = cell / 8 - p.cell / 8, e = cell % 8 - p.cell % 8;
            if (!p.looks(d, e) || Math.abs(d) + Math.abs(e) > reach(p)) return false;
            int n = Math.max(Math.abs(d), Math.abs(e));
            for (int k = 1; k <= n - 1; k++) {
                long r = Math.round((double) (d * k) / n), c = Math.round((double) (e * k) / n);
                if (walls[(int) ((p.cell / 8 + r) * 8 + p.cell % 8 + c)]) return false;
            }
            return true;
        }

        List<Integer> sight(Stool p) {
            List<Integer> cells = new ArrayList<>();
            for (int c = 0; c < 48; c++) if (sees(p, c)) cells.add(c);
            return cells;
        }

        java.util.TreeSet<Integer> sight(List<Stool> some) {
            java.util.TreeSet<Integer> cells = new java.util.TreeSet<>();
            for (Stool p : some) cells.addAll(sight(p));
            return cells;
        }

        List<Stool> awake() {
            List<Stool> some = new ArrayList<>();
            for (Stool p : posts) if (p.awake(hour)) some.add(p);
            return some;
        }

        List<Integer> blind() {
            List<Integer> cells = new ArrayList<>();
            java.util.TreeSet<Integer> seen = sight(posts);
            for (int c = 0; c < 48; c++) if (!walls[c] && !seen.contains(c)) cells.add(c);
            return cells;
        }

        boolean free(int cell) {
            for (Stool p : posts) if (p.cell == cell) return false;
            return !walls[cell];
        }

        void hour() {
            int to = beside(thief, draw() % 4);
            if (to >= 0 && !walls[to]) thief = to;
            int lot = draw() % 100;
            boolean seen = false;
            for (Stool p : awake()) seen |= sees(p, thief);
            if (lot < stealth || !seen) unseen++; else caught++;
            for (Stool p : posts) p.tired = p.awake(hour) ? Math.min(99, p.tired + 5) : Math.max(0, p.tired - 20);
            if (draw() % 100 < tires && !posts.isEmpty()) {
                Stool p = posts.get(draw() % posts.size());
                p.side = p.side == 3 ? 0 : p.side + 1;
            }
            hour++;
        }

        State after(int n) {
            State t = twin();
            for (int k = 0; k < n; k++) t.hour();
            return t;
        }

        int tiredAll() {
            int sum = 0;
            for (Stool p : posts) sum += p.tired;
            return sum;
        }

        int awakeSet() {
            int set = 0;
            for (int k = 0; k < posts.size(); k++) if (posts.get(k).awake(hour)) set += 1 << k;
            return set;
        }

        int told(int what) {
            return new int[] {caught, unseen, thief, awakeSet(), tiredAll()}[what];
        }
    }

    static int beside(int cell, int side) {
        int row = cell / 8 + new int[] {-1, 0, 1, 0}[side];
        int col = cell % 8 + new int[] {0, 1, 0, -1}[side];
        return row < 0 || row > 5 || col < 0 || col > 7 ? -1 : row * 8 + col;
    }

    State s = new State();
    State image = null;
    List<Integer> tape = new ArrayList<>();
    List<Integer> waiting = new ArrayList<>();
    /** A row of shorts is a Short[], one of floats a Float[]; null is NO NUMBER in it. */
    Object[][] sheets = new Object[4][];
    Object[] slots = new Object[5];

    private boolean noPost(int post) { return post < 0 || post >= s.posts.size(); }
    private static boolean not(int v, int least, int most) { return v < least || v > most; }

    public int post(int kind, int cell, int side) {
        if (not(kind, 0, 5) || not(cell, 0, 47) || not(side, 0, 3)) return BAD;
        if (!s.free(cell)) return NO;
        if (s.posts.size() == 8) return FULL;
        s.posts.add(made(kind, cell, side, 0));
        return s.posts.size() - 1;
    }

    public int told(int post, int what) {
        if (noPost(post) || not(what, 0, 7)) return BAD;
        Stool p = s.posts.get(post);
        return new int[] {p.number(), p.cell, p.side, p.tired, p.awake(s.hour) ? 1 : 0, s.reach(p),
            s.sight(p).size(), p.worth()}[what];
    }

    public int as(int post, int kind) {
        if (noPost(post) || not(kind, 0, 5)) return BAD;
        return CLASSES.get(kind).isInstance(s.posts.get(post)) ? s.posts.get(post).cell : KIND;
    }

    public int turns(int post, int kind) {
        if (noPost(post) || not(kind, 0, 5)) return BAD;
        Stool p = s.posts.get(post);
        s.posts.set(post, made(kind, p.cell, p.side, p.tired));
        return p.number();
    }

    public int set(int post, int what, int v) {
        if (noPost(post) || not(what, 2, 3) || not(v, 0, what == 2 ? 3 : 99)) return BAD;
        Stool p = s.posts.get(post);
        int was = what == 2 ? p.side : p.tired;
        if (what == 2) p.side = v; else p.tired = v;
        return was;
    }

    public int moves(int post, int cell) {
        if (noPost(post) || not(cell, 0, 47)) return BAD;
        if (!s.free(cell)) return NO;
        int was = s.posts.get(post).cell;
        s.posts.get(post).cell = cell;
        return was;
    }

    public int wall(int cell, int is) {
        if (not(cell, 0, 47) || not(is, 0, 1)) return BAD;
        if (is == 1 && (at(cell, 0) != NONE || s.thief == cell)) return NO;
        int was = s.walls[cell] ? 1 : 0;
        s.walls[cell] = is == 1;
        return was;
    }

    public int at(int cell, int what) {
        if (not(cell, 0, 47) || not(what, 0, 1)) return BAD;
        if (what == 1) return s.walls[cell] ? 1 : 0;
        for (int k = 0; k < s.posts.size(); k++) if (s.posts.get(k).cell == cell) return k;
        return NONE;
    }

    public int thief(int cell) {
        if (not(cell, 0, 47)) return BAD;
        if (s.walls[cell]) return NO;
        int was = s.thief;
        s.thief = cell;
        return was;
    }

    public int rule(int what, int v) {
        if (not(what, 0, 1) || not(v, 0, 100)) return BAD;
        int was = what == 0 ? s.stealth : s.tires;
        if (what == 0) s.stealth = v; else s.tires = v;
        return was;
    }

    public int deal(int n) {
        if (not(n, 1, 8)) return BAD;
        int came = 0;
        while (came < n && s.posts.size() < 8) {
            int kind = s.draw() % 6, cell = s.draw() % 48, side = s.draw() % 4, tired = s.draw() % 60;
            int looked = 0;
            while (looked < 48 && !s.free(cell)) {
                cell = cell == 47 ? 0 : cell + 1;
                looked++;
            }
            if (looked == 48) break;
            s.posts.add(made(kind, cell, side, tired));
            came++;
        }
        return came;
    }

    public int seed(int v) {
        int was = s.z;
        s.z = v;
        return was;
    }

    public int sees(int post, int cell) {
        if (noPost(post) || not(cell, 0, 47)) return BAD;
        return s.sees(s.posts.get(post), cell) ? 1 : 0;
    }

    public int row(int post, int row) {
        if (noPost(post) || not(row, 0, 5)) return BAD;
        int set = 0;
        for (int c : s.sight(s.posts.get(post))) if (c / 8 == row) set += 1 << c % 8;
        return set;
    }

    public int watched(int what) {
        if (not(what, 0, 3)) return BAD;
        List<Integer> blind = s.blind();
        if (what == 0) return s.sight(s.posts).size();
        if (what == 1) return blind.size();
        if (what == 2) return blind.isEmpty() ? NONE : blind.get(0);
        return s.sight(s.awake()).size();
    }

    public int spare(int post) {
        if (noPost(post)) return BAD;
        List<Stool> others = new ArrayList<>(s.posts);
        others.remove(post);
        return s.sight(others).equals(s.sight(s.posts)) ? 1 : 0;
    }

    public int fewest(int what) {
        if (not(what, 0, 1)) return BAD;
        java.util.TreeSet<Integer> watched = s.sight(s.posts);
        for (int many = 0; many <= 8; many++) {
            for (int set = 0; set < 1 << s.posts.size(); set++) {
                if (Integer.bitCount(set) != many) continue;
                List<Stool> some = new ArrayList<>();
                for (int k = 0; k < s.posts.size(); k++) if ((set & 1 << k) != 0) some.add(s.posts.get(k));
                if (s.sight(some).equals(watched)) return what == 0 ? set : many;
            }
        }
        throw new IllegalStateException();
    }

    public int stand(int kind, int side, int what) {
        if (not(kind, 0, 5) || not(side, 0, 3) || not(what, 0, 1)) return BAD;
        if (s.posts.size() == 8) return FULL;
        java.util.TreeSet<Integer> watched = s.sight(s.posts);
        int best = NONE, most = NONE;
        for (int c = 47; c >= 0; c--) {
            if (!s.free(c)) continue;
            List<Integer> cells = s.sight(made(kind, c, side, 0));
            cells.removeAll(watched);
            if (most == NONE || cells.size() >= most) {
                most = cells.size();
                best = c;
            }
        }
        return what == 0 ? best : most;
    }

    public int sneak(int from, int to) {
        if (not(from, 0, 47) || not(to, 0, 47)) return BAD;
        List<Integer> blind = s.blind();
        if (!blind.contains(from) || !blind.contains(to)) return NONE;
        int[] far = new int[48];
        Arrays.fill(far, -1);
        ArrayDeque<Integer> queue = new ArrayDeque<>(List.of(from));
        far[from] = 0;
        while (!queue.isEmpty()) {
            int c = queue.remove();
            for (int side = 0; side < 4; side++) {
                int next = beside(c, side);
                if (next >= 0 && far[next] < 0 && blind.contains(next)) {
                    far[next] = far[c] + 1;
                    queue.add(next);
                }
            }
        }
        return far[to] < 0 ? NONE : far[to];
    }

    public int hours(int n) {
        if (not(n, 1, 100)) return BAD;
        int was = s.caught;
        for (int k = 0; k < n && s.hour < 9999; k++) s.hour();
        return s.caught - was;
    }

    public int room(int what) {
        if (not(what, 0, 5)) return BAD;
        if (what < 5) return s.told(what);
        int many = 0;
        for (boolean w : s.walls) if (w) many++;
        return many;
    }

    public int behind(int n, int what) {
        if (not(n, 0, 100) || not(what, 0, 4 + s.posts.size())) return BAD;
        State t = s.after(n);
        return what < 5 ? t.told(what) : t.posts.get(what - 5).tired;
    }

    public int catches() {
        State t = s.twin();
        for (int k = 1; k <= 200; k++) {
            t.hour();
            if (t.caught > s.caught) return k;
        }
        return NONE;
    }

    public int faces(int post, int n, int what) {
        if (noPost(post) || not(n, 1, 60) || not(what, 0, 1)) return BAD;
        int best = 3, most = -1;
        for (int side = 3; side >= 0; side--) {
            State t = s.twin();
            t.posts.get(post).side = side;
            int caught = t.after(n).caught;
            if (caught >= most) {
                best = side;
                most = caught;
            }
        }
        return what == 0 ? best : most;
    }

    public int becomes(int post, int n, int what) {
        if (noPost(post) || not(n, 1, 60) || not(what, 0, 1)) return BAD;
        int best = 5, most = -1;
        for (int kind = 5; kind >= 0; kind--) {
            State t = s.twin();
            Stool p = t.posts.get(post);
            t.posts.set(post, made(kind, p.cell, p.side, p.tired));
            int caught = t.after(n).caught;
            if (caught >= most) {
                best = kind;
                most = caught;
            }
        }
        return what == 0 ? best : most;
    }

    public int like(int sheet, int what) {
        if (not(sheet, 0, 3) || not(what, 0, 1)) return BAD;
        if (sheets[sheet] == null) return NOTHING;
        if (s.posts.isEmpty()) return NONE;
        int best = -1, least = Integer.MAX_VALUE;
        for (int p = s.posts.size() - 1; p >= 0; p--) {
            int sum = 0;
            for (int k = 0; k < sheets[sheet].length; k++) {
                if (sheets[sheet][k] == null) continue;
                sum += Math.abs(s.after(k).posts.get(p).tired - number(sheets[sheet][k]));
            }
            if (sum <= least) {
                least = sum;
                best = p;
            }
        }
        return what == 0 ? best : least;
    }

    private static int number(Object place) { return ((Number) place).intValue(); }

    public int fee() {
        Law l = s.law(1);
        return l == null ? s.caught : l.expr.of(java.util.Map.of('c', s.caught, 'u', s.unseen));
    }

    public int fine(int post) {
        if (noPost(post)) return BAD;
        Law l = s.law(2);
        Stool p = s.posts.get(post);
        return l == null ? p.side : l.expr.of(java.util.Map.of('t', p.tired, 'c', p.cell));
    }

    public int feed(int a, int b, int c) {
        if (tape.size() > 84) return FULL;
        for (byte each : java.nio.ByteBuffer.allocate(12).putInt(a).putInt(b).putInt(c).array()) tape.add(each & 255);
        return tape.size();
    }

    public int trim(int n) {
        if (not(n, 0, tape.size())) return BAD;
        tape = new ArrayList<>(tape.subList(0, n));
        return n;
    }

    public int text() {
        Parser parser = new Parser(tape);
        tape = new ArrayList<>();
        try {
            Law law = parser.law();
            if (s.laws.size() == 14) return FULL;
            s.laws.add(law);
            return s.laws.size() - 1;
        } catch (Fault f) {
            return -100 - f.place;
        }
    }

    public int textTold(int text, int what) {
        if (not(text, 0, s.laws.size() - 1) || not(what, 0, 1)) return BAD;
        return what == 0 ? s.laws.get(text).key : s.laws.get(text).leaves;
    }

    public int why(int key) {
        if (not(key, 0, 2)) return BAD;
        return s.law(key) == null ? NONE : s.laws.indexOf(s.law(key));
    }

    public int sheet(int sheet, int sort, int n) {
        if (not(sheet, 0, 3) || not(sort, -1, 1)) return BAD;
        if (sort == -1) {
            sheets[sheet] = null;
            return 0;
        }
        if (n > 24) return BAD;
        if (n < 0) return SIZE;
        sheets[sheet] = sort == 0 ? new Short[n] : new Float[n];
        Arrays.fill(sheets[sheet], sort == 0 ? (Object) (short) 0 : (Object) 0f);
        return n;
    }

    public int mark(int sheet, int place, int v) {
        if (not(sheet, 0, 3)) return BAD;
        Object[] row = sheets[sheet];
        if (row == null) return NOTHING;
        if (not(place, 0, row.length - 1)) return INDEX;
        if (row instanceof Short[]) {
            if (v == NONE) return KIND;
            row[place] = (short) v;
        } else if (v == NONE) {
            row[place] = null;
        } else if (not(v, -99999, 99999)) {
            return BAD;
        } else {
            row[place] = (float) v;
        }
        return 1;
    }

    public int pour(int sheet) {
        if (not(sheet, 0, 3)) return BAD;
        if (sheets[sheet] == null) return NOTHING;
        int otherwise = 0;
        for (int k = 0; k < Math.min(s.posts.size(), sheets[sheet].length); k++) {
            if (sheets[sheet][k] == null) continue;
            int v = number(sheets[sheet][k]);
            v = v < 0 ? 0 : v > 99 ? 99 : v;
            if (s.posts.get(k).tired != v) otherwise++;
            s.posts.get(k).tired = v;
        }
        return otherwise;
    }

    public int reads(int sheet) {
        if (not(sheet, 0, 3)) return BAD;
        if (sheets[sheet] == null) return NOTHING;
        for (int k = 0; k < sheets[sheet].length; k++) {
            if (sheets[sheet][k] == null) continue;
            if (noPost(k) || s.posts.get(k).cell != number(sheets[sheet][k])) return k;
        }
        return NONE;
    }

    public int copy(int from, int place, int to, int at, int many) {
        if (not(from, 0, 3) || not(to, 0, 3)) return BAD;
        if (sheets[from] == null || sheets[to] == null) return NOTHING;
        if (sheets[from].getClass() != sheets[to].getClass()) return KIND;
        try {
            System.arraycopy(sheets[from], place, sheets[to], at, many);
        } catch (ArrayIndexOutOfBoundsException e) {
            return INDEX;
        }
        return many;
    }

    public int lay(int slot, int thing, int k) {
        if (not(slot, 0, 4) || not(thing, 0, 3)) return BAD;
        if (thing == 1 && noPost(k) || thing == 2 && not(k, 0, 3)) return BAD;
        if (thing == 2 && sheets[k] == null) return NOTHING;
        Object was = slots[slot];
        slots[slot] = thing == 0 ? null : thing == 1 ? s.posts.get(k).twin() : thing == 2 ? sheets[k].clone() : (Object) k;
        return was == null ? 0 : was instanceof Stool ? 1 : was instanceof Object[] ? 2 : 3;
    }

    public int ask(int slot, int kind) {
        if (not(slot, 0, 4) || not(kind, 0, 5)) return BAD;
        if (slots[slot] == null) return NOTHING;
        return CLASSES.get(kind).isInstance(slots[slot]) ? ((Stool) slots[slot]).worth() : KIND;
    }

    public int item(int slot, int place) {
        if (not(slot, 0, 4)) return BAD;
        if (slots[slot] == null) return NOTHING;
        if (!(slots[slot] instanceof Object[])) return KIND;
        Object[] row = (Object[]) slots[slot];
        if (not(place, 0, row.length - 1)) return INDEX;
        return row[place] == null ? KIND : number(row[place]);
    }

    public int rest(int slot, int n) {
        if (not(slot, 0, 4)) return BAD;
        if (slots[slot] == null) return NOTHING;
        if (!(slots[slot] instanceof Integer)) return KIND;
        if (n == 0) return NO;
        long k = (Integer) slots[slot];
        return (int) (k - k / n * n);
    }

    public int tell(int v) {
        if (waiting.size() == 60) return FULL;
        waiting.add(v);
        return waiting.size();
    }

    List<Integer> hoursTold(int n) {
        List<Integer> rows = new ArrayList<>();
        State t = image.twin();
        for (int k = 0; k < n && t.hour < 9999; k++) {
            t.hour();
            rows.add(t.caught);
            rows.add(t.tiredAll());
        }
        return rows;
    }

    public int check(int n) {
        List<Integer> told = waiting;
        waiting = new ArrayList<>();
        if (not(n, 1, 30)) return BAD;
        if (image == null) return NO;
        List<Integer> due = hoursTold(n);
        int k = 0;
        while (k < due.size() && k < told.size() && due.get(k).equals(told.get(k))) k++;
        return k == due.size() && k == told.size() ? 0 : 1 + k;
    }

    public int keep() {
        image = s.twin();
        return s.posts.size();
    }

    public int back() {
        if (image == null) return NO;
        s = image.twin();
        return s.posts.size();
    }

    public int count(int what) {
        if (not(what, 0, 7)) return BAD;
        return new int[] {s.posts.size(), s.hour, s.stealth, s.tires, s.laws.size(), waiting.size(), tape.size(), s.z}[what];
    }

    static final class Fault extends Exception {
        private static final long serialVersionUID = 1L;
        final int place;
        Fault(int place) { this.place = place; }
    }

    /** The grammar rule by rule, going down by calls. */
    static final class Parser {
        final List<String> words = new ArrayList<>();
        final List<Integer> places = new ArrayList<>();
        final Law law = new Law();
        int next = 0, brackets = 0, nots = 0;

        Parser(List<Integer> tape) {
            StringBuilder b = new StringBuilder();
            for (int each : tape) b.append((char) each);
            java.util.regex.Matcher m = java.util.regex.Pattern.compile("[a-z]+|[0-9]+|[^ ]", java.util.regex.Pattern.DOTALL).matcher(b);
            int behindWord = -1;
            while (m.find()) {
                boolean word = m.group().matches("[a-z]+|[0-9]+");
                // a word without its blank is made one that fits nowhere
                words.add(word && m.start() == behindWord ? "glued" : m.group());
                places.add(m.start());
                behindWord = word ? m.end() : -1;
            }
            words.add("");
            places.add(tape.size());
        }

        Fault fault() { return new Fault(places.get(next)); }
        boolean has(String... some) { return Arrays.asList(some).contains(words.get(next)); }

        Law law() throws Fault {
            law.key = List.of("reach", "fee", "fine").indexOf(words.get(next));
            if (law.key < 0) throw fault();
            next++;
            law.expr = or();
            if (!has("")) throw fault();
            return law;
        }

        Expr or() throws Fault {
            Expr left = and();
            while (has("|")) {
                next++;
                Expr l = left, r = and();
                left = n -> (l.of(n) != 0) | (r.of(n) != 0) ? 1 : 0;
            }
            return left;
        }

        Expr and() throws Fault {
            Expr left = test();
            while (has("&")) {
                next++;
                Expr l = left, r = test();
                left = n -> (l.of(n) != 0) & (r.of(n) != 0) ? 1 : 0;
            }
            return left;
        }

        Expr test() throws Fault {
            Expr l = sum();
            if (!has("<", "=", ">")) return l;
            String sign = words.get(next++);
            Expr r = sum();
            if (sign.equals("<")) return n -> l.of(n) < r.of(n) ? 1 : 0;
            if (sign.equals("=")) return n -> l.of(n) == r.of(n) ? 1 : 0;
            return n -> l.of(n) > r.of(n) ? 1 : 0;
        }

        Expr sum() throws Fault {
            Expr left = term();
            while (has("+", "-")) {
                boolean plus = words.get(next++).equals("+");
                Expr l = left, r = term();
                left = plus ? n -> l.of(n) + r.of(n) : n -> l.of(n) - r.of(n);
            }
            return left;
        }

        Expr term() throws Fault {
            Expr left = piece();
            while (has("*", "/")) {
                boolean times = words.get(next++).equals("*");
                Expr l = left, r = piece();
                left = times ? n -> l.of(n) * r.of(n) : n -> r.of(n) == 0 ? 0 : l.of(n) / r.of(n);
            }
            return left;
        }

        Expr piece() throws Fault {
            String word = words.get(next);
            if (word.matches("[0-9]{1,4}")) {
                next++;
                law.leaves++;
                int v = Integer.parseInt(word);
                return n -> v;
            }
            if (word.length() == 1 && new String[] {"tsh", "cu", "tc"}[law.key].contains(word)) {
                next++;
                law.leaves++;
                char name = word.charAt(0);
                return n -> n.get(name);
            }
            if (word.equals("!") && nots < 8) {
                next++;
                nots++;
                Expr e = piece();
                nots--;
                return n -> e.of(n) == 0 ? 1 : 0;
            }
            if (word.equals("(") && brackets < 8) {
                next++;
                brackets++;
                Expr e = or();
                if (!has(")")) throw fault();
                next++;
                brackets--;
                return e;
            }
            throw fault();
        }
    }
}
