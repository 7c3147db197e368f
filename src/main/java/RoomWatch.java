/**
 * A room that is to be watched: cells, walls, posts of kinds, a thief who goes about by lot.
 * Words in capitals are the document's terms.
 */
public final class RoomWatch {
    public static final int BAD = -1000000001, NO = -1000000002, FULL = -1000000003, NONE = -1000000005, NOTHING = -1000000011, KIND = -1000000012, INDEX = -1000000013, SIZE = -1000000014;

    private static final int CELLS = 48, COLUMNS = 8, ROWS = 6, SIDES = 4;
    private static final int MOST_POSTS = 8, MOST_TEXTS = 14, MOST_BYTES = 96, MOST_PLACES = 24, MOST_WAITING = 60;
    private static final int SHEETS = 4, SLOTS = 5, KINDS = 6, KEYS = 3;
    private static final int MOST_TIRED = 99, MOST_REACH = 99, LAST_HOUR = 9999, MOST_RULE = 100;
    private static final int WEDGE = 1, LAMP = 2, SLIT = 3, DOOR = 4, DOZER = 5;
    private static final int REACH = 0, FEE = 1, FINE = 2;
    private static final int MISSING = -1, FLOATS = 1, MOST_FLOAT = 99999;
    private static final int HOLDS_NOTHING = 0, HOLDS_POST = 1, HOLDS_SHEET = 2, HOLDS_NUMBER = 3;
    private static final int MOST_THOUGHT = 100, MOST_WEIGHED = 60, MOST_CATCHING = 200, MOST_CHECKED = 30;

    /** For each KIND the one that it stands under; STOOL stands under none. */
    private static final int[] ABOVE = {-1, 0, 0, 1, 2, 0};

    private static final long ALL_CELLS = 0xFFFFFFFFFFFFL;
    private static final long FIRST_COLUMN = 0x010101010101L, LAST_COLUMN = 0x808080808080L;

    private final Room now = new Room();
    private final Room image = new Room();
    private boolean imageIsKept = false;

    /** Used again by every call that only thinks, so that thinking makes no new objects. */
    private final Room thought = new Room();
    private final Post newcomer = new Post();
    private final long[] sights = new long[MOST_POSTS];
    private final int[] differences = new int[MOST_POSTS];

    private final Reader reader = new Reader();
    private final Sheet[] sheets = new Sheet[SHEETS];
    private final Slot[] slots = new Slot[SLOTS];
    private final int[] waiting = new int[MOST_WAITING];
    private int waitingCount = 0;

    public RoomWatch() {
        for (int k = 0; k < SHEETS; k++) {
            sheets[k] = new Sheet();
        }
        for (int k = 0; k < SLOTS; k++) {
            slots[k] = new Slot();
        }
    }

    // ---- posts, walls

    public int post(int kind, int cell, int side) {
        if (!isBelow(kind, KINDS) || !isBelow(cell, CELLS) || !isBelow(side, SIDES)) {
            return BAD;
        }
        if (!now.isFree(cell)) {
            return NO;
        }
        if (now.postCount >= MOST_POSTS) {
            return FULL;
        }
        now.addPost(kind, cell, side, 0);
        return now.postCount - 1;
    }

    public int told(int post, int what) {
        if (!isPost(post)) {
            return BAD;
        }
        Post p = now.posts[post];
        switch (what) {
            case 0: return p.kind;
            case 1: return p.cell;
            case 2: return p.side;
            case 3: return p.tired;
            case 4: return oneIf(p.isAwake(now.hour));
            case 5: return now.reachOf(p);
            case 6: return Long.bitCount(now.sightOf(p));
            case 7: return p.worth();
            default: return BAD;
        }
    }

    public int as(int post, int kind) {
        if (!isPost(post) || !isBelow(kind, KINDS)) {
            return BAD;
        }
        Post p = now.posts[post];
        return p.isOf(kind) ? p.cell : KIND;
    }

    public int turns(int post, int kind) {
        if (!isPost(post) || !isBelow(kind, KINDS)) {
            return BAD;
        }
        int was = now.posts[post].kind;
        now.posts[post].kind = kind;
        return was;
    }

    public int set(int post, int what, int v) {
        if (!isPost(post)) {
            return BAD;
        }
        Post p = now.posts[post];
        if (what == 2 && isBelow(v, SIDES)) {
            int was = p.side;
            p.side = v;
            return was;
        }
        if (what == 3 && isBelow(v, MOST_TIRED + 1)) {
            int was = p.tired;
            p.tired = v;
            return was;
        }
        return BAD;
    }

    public int moves(int post, int cell) {
        if (!isPost(post) || !isBelow(cell, CELLS)) {
            return BAD;
        }
        if (!now.isFree(cell)) {
            return NO;
        }
        int was = now.posts[post].cell;
        now.posts[post].cell = cell;
        return was;
    }

    public int wall(int cell, int is) {
        if (!isBelow(cell, CELLS) || !isBelow(is, 2)) {
            return BAD;
        }
        if (is == 1 && (now.ownerOf(cell) != NONE || now.thiefCell == cell)) {
            return NO;
        }
        int was = oneIf(now.hasWall(cell));
        now.walls = is == 1 ? now.walls | bit(cell) : now.walls & ~bit(cell);
        return was;
    }

    public int at(int cell, int what) {
        if (!isBelow(cell, CELLS) || !isBelow(what, 2)) {
            return BAD;
        }
        return what == 0 ? now.ownerOf(cell) : oneIf(now.hasWall(cell));
    }

    public int thief(int cell) {
        if (!isBelow(cell, CELLS)) {
            return BAD;
        }
        if (now.hasWall(cell)) {
            return NO;
        }
        int was = now.thiefCell;
        now.thiefCell = cell;
        return was;
    }

    public int rule(int what, int v) {
        if (!isBelow(what, 2) || !isBelow(v, MOST_RULE + 1)) {
            return BAD;
        }
        int was;
        if (what == 0) {
            was = now.stealth;
            now.stealth = v;
        } else {
            was = now.tires;
            now.tires = v;
        }
        return was;
    }

    public int deal(int n) {
        if (n < 1 || n > MOST_POSTS) {
            return BAD;
        }
        int many = Math.min(n, MOST_POSTS - now.postCount);
        for (int k = 0; k < many; k++) {
            if (!now.drawPost()) {
                return k;
            }
        }
        return many;
    }

    public int seed(int v) {
        int was = now.z;
        now.z = v;
        return was;
    }

    // ---- sight

    public int sees(int post, int cell) {
        if (!isPost(post) || !isBelow(cell, CELLS)) {
            return BAD;
        }
        Post p = now.posts[post];
        return oneIf(now.isInSight(p, cell, now.reachOf(p)));
    }

    public int row(int post, int row) {
        if (!isPost(post) || !isBelow(row, ROWS)) {
            return BAD;
        }
        long sight = now.sightOf(now.posts[post]);
        return (int) (sight >>> (row * COLUMNS)) & 255;
    }

    public int watched(int what) {
        switch (what) {
            case 0: return Long.bitCount(now.watchedCells());
            case 1: return Long.bitCount(now.blindCells());
            case 2: return firstOf(now.blindCells());
            case 3: return Long.bitCount(now.guardedCells());
            default: return BAD;
        }
    }

    public int spare(int post) {
        if (!isPost(post)) {
            return BAD;
        }
        long others = 0;
        for (int k = 0; k < now.postCount; k++) {
            if (k != post) {
                others |= now.sightOf(now.posts[k]);
            }
        }
        return oneIf((now.sightOf(now.posts[post]) & ~others) == 0);
    }

    public int fewest(int what) {
        if (!isBelow(what, 2)) {
            return BAD;
        }
        int set = fewestPosts();
        return what == 0 ? set : Integer.bitCount(set);
    }

    public int stand(int kind, int side, int what) {
        if (!isBelow(kind, KINDS) || !isBelow(side, SIDES) || !isBelow(what, 2)) {
            return BAD;
        }
        if (now.postCount >= MOST_POSTS) {
            return FULL;
        }
        long blind = now.blindCells();
        int best = NONE;
        int most = -1;
        for (int cell = 0; cell < CELLS; cell++) {
            if (now.isFree(cell)) {
                newcomer.become(kind, cell, side, 0);
                int gain = Long.bitCount(now.sightOf(newcomer) & blind);
                if (gain > most) {
                    most = gain;
                    best = cell;
                }
            }
        }
        return what == 0 || best == NONE ? best : most;
    }

    public int sneak(int from, int to) {
        if (!isBelow(from, CELLS) || !isBelow(to, CELLS)) {
            return BAD;
        }
        long blind = now.blindCells();
        long reached = bit(from) & blind;
        for (int steps = 0; steps < CELLS; steps++) {
            if ((reached & bit(to)) != 0) {
                return steps;
            }
            reached |= cellsBeside(reached) & blind;
        }
        return NONE;
    }

    // ---- hours

    public int hours(int n) {
        if (n < 1 || n > MOST_THOUGHT) {
            return BAD;
        }
        int was = now.caught;
        now.passHours(Math.min(n, LAST_HOUR - now.hour));
        return now.caught - was;
    }

    public int room(int what) {
        if (what == 5) {
            return Long.bitCount(now.walls);
        }
        return isBelow(what, 5) ? now.standing(what) : BAD;
    }

    public int behind(int n, int what) {
        if (!isBelow(n, MOST_THOUGHT + 1) || !isBelow(what, 5 + now.postCount)) {
            return BAD;
        }
        thought.becomeAs(now);
        thought.passHours(n);
        return what < 5 ? thought.standing(what) : thought.posts[what - 5].tired;
    }

    public int catches() {
        thought.becomeAs(now);
        for (int k = 1; k <= MOST_CATCHING; k++) {
            thought.passHours(1);
            if (thought.caught > now.caught) {
                return k;
            }
        }
        return NONE;
    }

    public int faces(int post, int n, int what) {
        if (!isWeighed(post, n, what)) {
            return BAD;
        }
        int best = 0;
        int most = -1;
        for (int side = 0; side < SIDES; side++) {
            thought.becomeAs(now);
            thought.posts[post].side = side;
            thought.passHours(n);
            if (thought.caught > most) {
                most = thought.caught;
                best = side;
            }
        }
        return what == 0 ? best : most;
    }

    public int becomes(int post, int n, int what) {
        if (!isWeighed(post, n, what)) {
            return BAD;
        }
        int best = 0;
        int most = -1;
        for (int kind = 0; kind < KINDS; kind++) {
            thought.becomeAs(now);
            thought.posts[post].kind = kind;
            thought.passHours(n);
            if (thought.caught > most) {
                most = thought.caught;
                best = kind;
            }
        }
        return what == 0 ? best : most;
    }

    public int like(int sheet, int what) {
        if (!isBelow(sheet, SHEETS) || !isBelow(what, 2)) {
            return BAD;
        }
        if (sheets[sheet].isMissing()) {
            return NOTHING;
        }
        if (now.postCount == 0) {
            return NONE;
        }
        sumDifferences(sheets[sheet]);
        int best = 0;
        for (int k = 1; k < now.postCount; k++) {
            if (differences[k] < differences[best]) {
                best = k;
            }
        }
        return what == 0 ? best : differences[best];
    }

    public int fee() {
        Text counts = now.countingText(FEE);
        return counts == null ? now.caught : counts.work(now.caught, now.unseen, 0);
    }

    public int fine(int post) {
        if (!isPost(post)) {
            return BAD;
        }
        Post p = now.posts[post];
        Text counts = now.countingText(FINE);
        return counts == null ? p.side : counts.work(p.tired, p.cell, 0);
    }

    // ---- texts

    public int feed(int a, int b, int c) {
        if (reader.length + 12 > MOST_BYTES) {
            return FULL;
        }
        reader.takeBytes(a);
        reader.takeBytes(b);
        reader.takeBytes(c);
        return reader.length;
    }

    public int trim(int n) {
        if (!isBelow(n, reader.length + 1)) {
            return BAD;
        }
        reader.length = n;
        return n;
    }

    public int text() {
        int fault = reader.findFault();
        reader.length = 0;
        if (fault >= 0) {
            return -100 - fault;
        }
        if (now.textCount >= MOST_TEXTS) {
            return FULL;
        }
        now.addText(reader.makeText());
        return now.textCount - 1;
    }

    public int textTold(int text, int what) {
        if (!isBelow(text, now.textCount) || !isBelow(what, 2)) {
            return BAD;
        }
        Text t = now.texts[text];
        if (t == null) {
            return BAD;
        }
        return what == 0 ? t.key : t.leaves;
    }

    public int why(int key) {
        if (!isBelow(key, KEYS)) {
            return BAD;
        }
        int counts = now.lastTexts[key];
        return counts < 0 ? NONE : counts;
    }

    // ---- sheets, slots

    public int sheet(int sheet, int sort, int n) {
        if (!isBelow(sheet, SHEETS) || sort < MISSING || sort > FLOATS) {
            return BAD;
        }
        if (sort == MISSING) {
            sheets[sheet].become(MISSING, 0);
            return 0;
        }
        if (n > MOST_PLACES) {
            return BAD;
        }
        if (n < 0) {
            return SIZE;
        }
        sheets[sheet].become(sort, n);
        return n;
    }

    public int mark(int sheet, int place, int v) {
        if (!isBelow(sheet, SHEETS)) {
            return BAD;
        }
        Sheet s = sheets[sheet];
        if (s.isMissing()) {
            return NOTHING;
        }
        if (!isBelow(place, s.size)) {
            return INDEX;
        }
        if (s.sort != FLOATS) {
            if (v == NONE) {
                return KIND;
            }
            s.places[place] = (short) v;
            return 1;
        }
        if (v != NONE && (v < -MOST_FLOAT || v > MOST_FLOAT)) {
            return BAD;
        }
        s.places[place] = v;
        return 1;
    }

    public int pour(int sheet) {
        if (!isBelow(sheet, SHEETS)) {
            return BAD;
        }
        Sheet s = sheets[sheet];
        if (s.isMissing()) {
            return NOTHING;
        }
        int otherwise = 0;
        for (int k = 0; k < now.postCount && k < s.size; k++) {
            int tired = held(s.places[k], MOST_TIRED);
            if (s.hasNumber(k) && now.posts[k].tired != tired) {
                now.posts[k].tired = tired;
                otherwise++;
            }
        }
        return otherwise;
    }

    public int reads(int sheet) {
        if (!isBelow(sheet, SHEETS)) {
            return BAD;
        }
        Sheet s = sheets[sheet];
        if (s.isMissing()) {
            return NOTHING;
        }
        for (int k = 0; k < s.size; k++) {
            boolean isCellOfPost = k < now.postCount && now.posts[k].cell == s.places[k];
            if (s.hasNumber(k) && !isCellOfPost) {
                return k;
            }
        }
        return NONE;
    }

    public int copy(int from, int place, int to, int at, int many) {
        if (!isBelow(from, SHEETS) || !isBelow(to, SHEETS)) {
            return BAD;
        }
        Sheet source = sheets[from];
        Sheet target = sheets[to];
        if (source.isMissing() || target.isMissing()) {
            return NOTHING;
        }
        if (source.sort != target.sort) {
            return KIND;
        }
        if (!source.hasPlaces(place, many) || !target.hasPlaces(at, many)) {
            return INDEX;
        }
        System.arraycopy(source.places, place, target.places, at, many);
        return many;
    }

    public int lay(int slot, int thing, int k) {
        if (!isBelow(slot, SLOTS) || thing < HOLDS_NOTHING || thing > HOLDS_NUMBER) {
            return BAD;
        }
        if (thing == HOLDS_POST && !isPost(k) || thing == HOLDS_SHEET && !isBelow(k, SHEETS)) {
            return BAD;
        }
        if (thing == HOLDS_SHEET && sheets[k].isMissing()) {
            return NOTHING;
        }
        Slot s = slots[slot];
        int held = s.holds;
        s.holds = thing;
        if (thing == HOLDS_POST) {
            s.post.becomeAs(now.posts[k]);
        } else if (thing == HOLDS_SHEET) {
            s.sheet.becomeAs(sheets[k]);
        } else if (thing == HOLDS_NUMBER) {
            s.number = k;
        }
        return held;
    }

    public int ask(int slot, int kind) {
        if (!isBelow(slot, SLOTS) || !isBelow(kind, KINDS)) {
            return BAD;
        }
        Slot s = slots[slot];
        if (s.holds == HOLDS_NOTHING) {
            return NOTHING;
        }
        if (s.holds != HOLDS_POST || !s.post.isOf(kind)) {
            return KIND;
        }
        return s.post.worth();
    }

    public int item(int slot, int place) {
        if (!isBelow(slot, SLOTS)) {
            return BAD;
        }
        Slot s = slots[slot];
        if (s.holds == HOLDS_NOTHING) {
            return NOTHING;
        }
        if (s.holds != HOLDS_SHEET) {
            return KIND;
        }
        if (!isBelow(place, s.sheet.size)) {
            return INDEX;
        }
        return s.sheet.hasNumber(place) ? s.sheet.places[place] : KIND;
    }

    public int rest(int slot, int n) {
        if (!isBelow(slot, SLOTS)) {
            return BAD;
        }
        Slot s = slots[slot];
        if (s.holds == HOLDS_NOTHING) {
            return NOTHING;
        }
        if (s.holds != HOLDS_NUMBER) {
            return KIND;
        }
        return n == 0 ? NO : s.number % n;
    }

    // ---- rows, images

    public int tell(int v) {
        if (waitingCount >= MOST_WAITING) {
            return FULL;
        }
        waiting[waitingCount] = v;
        waitingCount++;
        return waitingCount;
    }

    public int check(int n) {
        int told = waitingCount;
        waitingCount = 0;
        if (n < 1 || n > MOST_CHECKED) {
            return BAD;
        }
        if (!imageIsKept) {
            return NO;
        }
        thought.becomeAs(image);
        int due = 2 * Math.min(n, LAST_HOUR - image.hour);
        for (int k = 0; k < due; k++) {
            if (k % 2 == 0) {
                thought.passHours(1);
            }
            int right = k % 2 == 0 ? thought.caught : thought.tiredOfAll();
            if (k >= told || waiting[k] != right) {
                return 1 + k;
            }
        }
        return told > due ? 1 + due : 0;
    }

    public int keep() {
        image.becomeAs(now);
        imageIsKept = true;
        return now.postCount;
    }

    public int back() {
        if (!imageIsKept) {
            return NO;
        }
        now.becomeAs(image);
        return now.postCount;
    }

    public int count(int what) {
        switch (what) {
            case 0: return now.postCount;
            case 1: return now.hour;
            case 2: return now.stealth;
            case 3: return now.tires;
            case 4: return now.textCount;
            case 5: return waitingCount;
            case 6: return reader.length;
            case 7: return now.z;
            default: return BAD;
        }
    }

    // ---- what the calls share

    private boolean isPost(int number) {
        return isBelow(number, now.postCount);
    }

    private boolean isWeighed(int post, int n, int what) {
        return isPost(post) && n >= 1 && n <= MOST_WEIGHED && isBelow(what, 2);
    }

    /** Sets are tried from the least on, so the first of the fewest is the least one. */
    private int fewestPosts() {
        long watched = 0;
        for (int k = 0; k < now.postCount; k++) {
            sights[k] = now.sightOf(now.posts[k]);
            watched |= sights[k];
        }
        int best = (1 << now.postCount) - 1;
        for (int set = 0; set < 1 << now.postCount; set++) {
            if (Integer.bitCount(set) < Integer.bitCount(best) && sightOfSet(set) == watched) {
                best = set;
            }
        }
        return best;
    }

    private long sightOfSet(int set) {
        long sight = 0;
        for (int k = 0; k < MOST_POSTS; k++) {
            if ((set >> k & 1) == 1) {
                sight |= sights[k];
            }
        }
        return sight;
    }

    private void sumDifferences(Sheet s) {
        for (int p = 0; p < MOST_POSTS; p++) {
            differences[p] = 0;
        }
        thought.becomeAs(now);
        for (int k = 0; k < s.size; k++) {
            if (k > 0) {
                thought.passHours(1);
            }
            for (int p = 0; p < thought.postCount && s.hasNumber(k); p++) {
                differences[p] += Math.abs(thought.posts[p].tired - s.places[k]);
            }
        }
    }

    private static boolean isBelow(int v, int bound) {
        return v >= 0 && v < bound;
    }

    private static int held(int v, int most) {
        return Math.max(0, Math.min(v, most));
    }

    private static int oneIf(boolean is) {
        return is ? 1 : 0;
    }

    private static long bit(int cell) {
        return 1L << cell;
    }

    private static int firstOf(long cells) {
        for (int cell = 0; cell < CELLS; cell++) {
            if ((cells & bit(cell)) != 0) {
                return cell;
            }
        }
        return NONE;
    }

    /** The ends of rows are taken out first: a shift alone would go round to the next row. */
    private static long cellsBeside(long cells) {
        long aside = (cells & ~LAST_COLUMN) << 1 | (cells & ~FIRST_COLUMN) >>> 1;
        return (aside | cells << COLUMNS | cells >>> COLUMNS) & ALL_CELLS;
    }

    /** A POST; where it looks and when it is awake goes by its KIND. */
    private static final class Post {
        int kind = 0;
        int cell = 0;
        int side = 0;
        int tired = 0;

        void become(int newKind, int newCell, int newSide, int newTired) {
            kind = newKind;
            cell = newCell;
            side = newSide;
            tired = newTired;
        }

        void becomeAs(Post other) {
            become(other.kind, other.cell, other.side, other.tired);
        }

        boolean isOf(int wanted) {
            int at = kind;
            for (int k = 0; k < KINDS && isBelow(at, KINDS); k++) {
                if (at == wanted) {
                    return true;
                }
                at = ABOVE[at];
            }
            return false;
        }

        boolean isAwake(int hour) {
            switch (kind) {
                case LAMP: return hour % 2 == 0;
                case DOOR: return hour % 2 == 0 || hour % 3 == 0;
                case DOZER: return tired < 50;
                default: return true;
            }
        }

        boolean looksAt(int rows, int columns) {
            switch (kind) {
                case WEDGE: return aheadBy(rows, columns) >= Math.abs(asideBy(rows, columns));
                case SLIT: return aheadBy(rows, columns) > 0 && asideBy(rows, columns) == 0;
                case DOOR: return Math.abs(rows) + Math.abs(columns) <= 2;
                default: return true;
            }
        }

        int aheadBy(int rows, int columns) {
            switch (side) {
                case 0: return -rows;
                case 1: return columns;
                case 2: return rows;
                default: return -columns;
            }
        }

        int asideBy(int rows, int columns) {
            return side % 2 == 0 ? columns : rows;
        }

        int reachFrom(int plain) {
            switch (kind) {
                case WEDGE: return plain + 2;
                case SLIT: return 2 * (plain + 2);
                default: return plain;
            }
        }

        int worth() {
            switch (kind) {
                case WEDGE: return tired + 4;
                case SLIT: return 2 * (tired + 4);
                case LAMP: return 99 - tired;
                case DOOR: return 99 - tired - 6;
                case DOZER: return 3;
                default: return tired;
            }
        }
    }

    /** All that AN IMAGE keeps: the room as it is, was, or is thought to be. */
    private static final class Room {
        final Post[] posts = new Post[MOST_POSTS];
        int postCount = 0;
        long walls = 0;
        int thiefCell = 0;
        int stealth = 20;
        int tires = 30;
        int caught = 0;
        int unseen = 0;
        int hour = 0;
        int z = 1;
        final Text[] texts = new Text[MOST_TEXTS];
        int textCount = 0;
        final int[] lastTexts = {-1, -1, -1};

        Room() {
            for (int k = 0; k < MOST_POSTS; k++) {
                posts[k] = new Post();
            }
        }

        void becomeAs(Room other) {
            for (int k = 0; k < other.postCount; k++) {
                posts[k].becomeAs(other.posts[k]);
            }
            postCount = other.postCount;
            walls = other.walls;
            thiefCell = other.thiefCell;
            stealth = other.stealth;
            tires = other.tires;
            caught = other.caught;
            unseen = other.unseen;
            hour = other.hour;
            z = other.z;
            for (int k = 0; k < other.textCount; k++) {
                texts[k] = other.texts[k];
            }
            textCount = other.textCount;
            for (int k = 0; k < KEYS; k++) {
                lastTexts[k] = other.lastTexts[k];
            }
        }

        boolean hasWall(int cell) {
            return (walls >>> cell & 1) != 0;
        }

        int ownerOf(int cell) {
            for (int k = 0; k < postCount; k++) {
                if (posts[k].cell == cell) {
                    return k;
                }
            }
            return NONE;
        }

        boolean isFree(int cell) {
            return !hasWall(cell) && ownerOf(cell) == NONE;
        }

        void addPost(int kind, int cell, int side, int tired) {
            if (postCount < MOST_POSTS) {
                posts[postCount].become(kind, cell, side, tired);
                postCount++;
            }
        }

        int draw() {
            z = z * 1103515245 + 12345;
            return z >>> 8;
        }

        /** All four are drawn ahead of the look for a CELL: z goes on even if there is none. */
        boolean drawPost() {
            int kind = draw() % KINDS;
            int from = draw() % CELLS;
            int side = draw() % SIDES;
            int tired = draw() % 60;
            for (int k = 0; k < CELLS; k++) {
                int cell = (from + k) % CELLS;
                if (isFree(cell)) {
                    addPost(kind, cell, side, tired);
                    return true;
                }
            }
            return false;
        }

        // -- sight

        int reachOf(Post p) {
            Text counts = countingText(REACH);
            int plain = counts == null ? 5 : counts.work(p.tired, p.side, hour);
            return p.reachFrom(held(plain, MOST_REACH));
        }

        /** The reach comes from the caller, so that it is worked out once for many CELLS. */
        boolean isInSight(Post p, int cell, int reach) {
            if (cell == p.cell) {
                return true;
            }
            if (hasWall(cell)) {
                return false;
            }
            int rows = cell / COLUMNS - p.cell / COLUMNS;
            int columns = cell % COLUMNS - p.cell % COLUMNS;
            return Math.abs(rows) + Math.abs(columns) <= reach
                && p.looksAt(rows, columns)
                && isClear(p.cell, rows, columns);
        }

        /** floorDiv rounds: a half below 0 goes to the greater number, too. */
        boolean isClear(int from, int rows, int columns) {
            int n = Math.max(Math.abs(rows), Math.abs(columns));
            for (int k = 1; k < n; k++) {
                int rowsOff = Math.floorDiv(2 * rows * k + n, 2 * n);
                int columnsOff = Math.floorDiv(2 * columns * k + n, 2 * n);
                if (hasWall(from + COLUMNS * rowsOff + columnsOff)) {
                    return false;
                }
            }
            return true;
        }

        long sightOf(Post p) {
            int reach = reachOf(p);
            long sight = 0;
            for (int cell = 0; cell < CELLS; cell++) {
                if (isInSight(p, cell, reach)) {
                    sight |= bit(cell);
                }
            }
            return sight;
        }

        long watchedCells() {
            long cells = 0;
            for (int k = 0; k < postCount; k++) {
                cells |= sightOf(posts[k]);
            }
            return cells;
        }

        long guardedCells() {
            long cells = 0;
            for (int k = 0; k < postCount; k++) {
                if (posts[k].isAwake(hour)) {
                    cells |= sightOf(posts[k]);
                }
            }
            return cells;
        }

        long blindCells() {
            return ALL_CELLS & ~walls & ~watchedCells();
        }

        // -- hours

        void passHours(int n) {
            for (int k = 0; k < n; k++) {
                moveThief();
                if (draw() % 100 < stealth || !thiefIsSeen()) {
                    unseen++;
                } else {
                    caught++;
                }
                tirePosts();
                turnPost();
                hour++;
            }
        }

        void moveThief() {
            int side = draw() % SIDES;
            int row = thiefCell / COLUMNS;
            int column = thiefCell % COLUMNS;
            if (side == 0) {
                row--;
            } else if (side == 1) {
                column++;
            } else if (side == 2) {
                row++;
            } else {
                column--;
            }
            int cell = row * COLUMNS + column;
            if (isBelow(row, ROWS) && isBelow(column, COLUMNS) && !hasWall(cell)) {
                thiefCell = cell;
            }
        }

        boolean thiefIsSeen() {
            for (int k = 0; k < postCount; k++) {
                Post p = posts[k];
                if (p.isAwake(hour) && isInSight(p, thiefCell, reachOf(p))) {
                    return true;
                }
            }
            return false;
        }

        void tirePosts() {
            for (int k = 0; k < postCount; k++) {
                Post p = posts[k];
                p.tired = held(p.tired + (p.isAwake(hour) ? 5 : -20), MOST_TIRED);
            }
        }

        void turnPost() {
            boolean oneTurns = draw() % 100 < tires;
            if (oneTurns && postCount > 0) {
                Post p = posts[draw() % postCount];
                p.side = (p.side + 1) % SIDES;
            }
        }

        int awakePosts() {
            int set = 0;
            for (int k = 0; k < postCount; k++) {
                if (posts[k].isAwake(hour)) {
                    set |= 1 << k;
                }
            }
            return set;
        }

        int tiredOfAll() {
            int all = 0;
            for (int k = 0; k < postCount; k++) {
                all += posts[k].tired;
            }
            return all;
        }

        int standing(int what) {
            switch (what) {
                case 0: return caught;
                case 1: return unseen;
                case 2: return thiefCell;
                case 3: return awakePosts();
                default: return tiredOfAll();
            }
        }

        // -- texts

        void addText(Text t) {
            if (textCount < MOST_TEXTS && isBelow(t.key, KEYS)) {
                texts[textCount] = t;
                lastTexts[t.key] = textCount;
                textCount++;
            }
        }

        Text countingText(int key) {
            int last = isBelow(key, KEYS) ? lastTexts[key] : -1;
            return isBelow(last, textCount) ? texts[last] : null;
        }
    }

    /**
     * A TEXT as a row of steps, what is joined ahead of the sign that joins it: a NUMBER is itself,
     * a NAME is below 0 by its place among its KEY's names, a sign is its byte below 0.
     */
    private static final class Text {
        private static final int LEAST_NAME = -3;

        final int key;
        final int leaves;
        final int[] steps;
        final int[] stack;

        Text(int key, int leaves, int[] steps) {
            this.key = key;
            this.leaves = leaves;
            this.steps = steps;
            this.stack = new int[Math.max(leaves, 0)];
        }

        int work(int first, int second, int third) {
            int depth = 0;
            for (int k = 0; k < steps.length; k++) {
                int step = steps[k];
                if (step >= LEAST_NAME) {
                    if (depth >= stack.length) {
                        return 0;
                    }
                    stack[depth] = step >= 0 ? step : step == -1 ? first : step == -2 ? second : third;
                    depth++;
                } else if (step == -'!') {
                    if (depth < 1) {
                        return 0;
                    }
                    stack[depth - 1] = stack[depth - 1] == 0 ? 1 : 0;
                } else {
                    if (depth < 2) {
                        return 0;
                    }
                    depth--;
                    stack[depth - 1] = join(-step, stack[depth - 1], stack[depth]);
                }
            }
            return depth < 1 ? 0 : stack[0];
        }

        static int join(int sign, int left, int right) {
            switch (sign) {
                case '|': return left != 0 || right != 0 ? 1 : 0;
                case '&': return left != 0 && right != 0 ? 1 : 0;
                case '<': return left < right ? 1 : 0;
                case '=': return left == right ? 1 : 0;
                case '>': return left > right ? 1 : 0;
                case '+': return left + right;
                case '-': return left - right;
                case '*': return left * right;
                case '/': return right == 0 ? 0 : left / right;
                default: return 0;
            }
        }
    }

    /**
     * THE TAPE, and its reading: by one row of open signs and no recursion. A sign stays open until what
     * stands to its right is whole; a TEXT goes on by turns with a PIECE and with a sign that joins.
     */
    private static final class Reader {
        private static final int BLANK = 32, MOST_OPEN = 8, MOST_DIGITS = 4, TEST_RANK = 3;

        final int[] tape = new int[MOST_BYTES];
        int length = 0;

        final int[] steps = new int[MOST_BYTES];
        int stepCount = 0;
        final int[] open = new int[MOST_BYTES];
        int openCount = 0;
        int key = -1;
        int leaves = 0;
        int brackets = 0;
        int nots = 0;
        boolean wantsPiece = true;
        int start = 0;
        int end = 0;

        void takeBytes(int four) {
            for (int shift = 24; shift >= 0 && length < MOST_BYTES; shift -= 8) {
                tape[length] = four >>> shift & 255;
                length++;
            }
        }

        Text makeText() {
            int[] own = new int[stepCount];
            System.arraycopy(steps, 0, own, 0, stepCount);
            return new Text(key, leaves, own);
        }

        /** The place of the FAULT; -1 if THE TAPE is a TEXT. */
        int findFault() {
            clear();
            if (!goOn()) {
                return length;
            }
            key = keyHere();
            if (key < 0) {
                return start;
            }
            for (int k = 0; k < MOST_BYTES && goOn(); k++) {
                boolean fits = wantsPiece ? takePiece() : takeJoint();
                if (!fits) {
                    return start;
                }
            }
            if (wantsPiece || brackets > 0) {
                return length;
            }
            closeAbove(0);
            return -1;
        }

        void clear() {
            stepCount = 0;
            openCount = 0;
            key = -1;
            leaves = 0;
            brackets = 0;
            nots = 0;
            wantsPiece = true;
            start = 0;
            end = 0;
        }

        /** Goes to the next word or sign; false at the end. */
        boolean goOn() {
            start = end;
            while (start < length && tape[start] == BLANK) {
                start++;
            }
            if (start >= length) {
                return false;
            }
            int sort = sortAt(start);
            end = start + 1;
            while (sort != 0 && end < length && sortAt(end) == sort) {
                end++;
            }
            return true;
        }

        /** 1 a letter, 2 a digit, 0 anything else. */
        int sortAt(int place) {
            int b = isBelow(place, length) ? tape[place] : BLANK;
            return b >= 'a' && b <= 'z' ? 1 : b >= '0' && b <= '9' ? 2 : 0;
        }

        int keyHere() {
            return isWord("reach") ? REACH : isWord("fee") ? FEE : isWord("fine") ? FINE : -1;
        }

        boolean isWord(String word) {
            if (end - start != word.length()) {
                return false;
            }
            for (int k = 0; k < word.length() && start + k < length; k++) {
                if (tape[start + k] != word.charAt(k)) {
                    return false;
                }
            }
            return true;
        }

        /** A word right behind another one, without the blank that it needs. */
        boolean isGlued() {
            return start > 0 && sortAt(start) != 0 && sortAt(start - 1) != 0;
        }

        boolean takePiece() {
            int sort = sortAt(start);
            if (sort == 0) {
                return takeOpening(tape[start]);
            }
            if (isGlued()) {
                return false;
            }
            int step;
            if (sort == 1) {
                int name = end - start == 1 ? namesOfKey().indexOf((char) tape[start]) : -1;
                if (name < 0) {
                    return false;
                }
                step = -1 - name;
            } else {
                if (end - start > MOST_DIGITS) {
                    return false;
                }
                step = numberHere();
            }
            addStep(step);
            leaves++;
            endPiece();
            return true;
        }

        String namesOfKey() {
            return key == REACH ? "tsh" : key == FEE ? "cu" : "tc";
        }

        int numberHere() {
            int number = 0;
            for (int k = start; k < end && k < length; k++) {
                number = number * 10 + tape[k] - '0';
            }
            return number;
        }

        boolean takeOpening(int sign) {
            if (sign == '(' && brackets < MOST_OPEN) {
                brackets++;
            } else if (sign == '!' && nots < MOST_OPEN) {
                nots++;
            } else {
                return false;
            }
            addOpen(sign);
            return true;
        }

        boolean takeJoint() {
            int sign = tape[start];
            if (sign == ')' && brackets > 0) {
                closeAbove(0);
                openCount--;
                brackets--;
                endPiece();
                return true;
            }
            int rank = rankOf(sign);
            if (rank == 0) {
                return false;
            }
            if (rank == TEST_RANK) {
                closeAbove(TEST_RANK);
                if (rankOf(lastOpen()) == TEST_RANK) {
                    return false;
                }
            } else {
                closeAbove(rank - 1);
            }
            addOpen(sign);
            wantsPiece = true;
            return true;
        }

        /** How tightly a sign joins; 0: it does not join. */
        static int rankOf(int sign) {
            switch (sign) {
                case '|': return 1;
                case '&': return 2;
                case '<': case '=': case '>': return TEST_RANK;
                case '+': case '-': return 4;
                case '*': case '/': return 5;
                default: return 0;
            }
        }

        /** Every ! that waits for this PIECE has it now. */
        void endPiece() {
            wantsPiece = false;
            while (openCount > 0 && lastOpen() == '!') {
                addStep(-'!');
                openCount--;
                nots--;
            }
        }

        void closeAbove(int rank) {
            while (openCount > 0 && rankOf(lastOpen()) > rank) {
                addStep(-lastOpen());
                openCount--;
            }
        }

        int lastOpen() {
            return isBelow(openCount - 1, MOST_BYTES) ? open[openCount - 1] : 0;
        }

        void addOpen(int sign) {
            if (openCount < MOST_BYTES) {
                open[openCount] = sign;
                openCount++;
            }
        }

        void addStep(int step) {
            if (stepCount < MOST_BYTES) {
                steps[stepCount] = step;
                stepCount++;
            }
        }
    }

    /**
     * A SHEET; its size changes, its row stays, so that a new sort makes no new objects. NO NUMBER is NONE
     * in its place: no short and no float that a place takes is that number.
     */
    private static final class Sheet {
        int sort = MISSING;
        int size = 0;
        final int[] places = new int[MOST_PLACES];

        boolean isMissing() {
            return sort == MISSING;
        }

        void become(int newSort, int newSize) {
            sort = newSort;
            size = newSize;
            for (int k = 0; k < MOST_PLACES; k++) {
                places[k] = 0;
            }
        }

        void becomeAs(Sheet other) {
            sort = other.sort;
            size = other.size;
            System.arraycopy(other.places, 0, places, 0, MOST_PLACES);
        }

        boolean hasNumber(int place) {
            return isBelow(place, size) && places[place] != NONE;
        }

        /** Taken from the size, not added to the place: a sum could wrap. */
        boolean hasPlaces(int from, int many) {
            return from >= 0 && many >= 0 && from <= size && many <= size - from;
        }
    }

    /** A SLOT; of what it could hold, that counts which holds names. */
    private static final class Slot {
        int holds = HOLDS_NOTHING;
        final Post post = new Post();
        final Sheet sheet = new Sheet();
        int number = 0;
    }
}
