/** Boundary cases of the room, its posts and walls: the terms' first part, promises 1 to 13. */
final class RoomBounds {
    private static final int BAD = Sentences.BAD, NO = Sentences.NO, FULL = Sentences.FULL, NONE = Sentences.NONE,
        NOTHING = Sentences.NOTHING, KIND = Sentences.KIND;
    private static final int MIN = Sentences.MIN, MAX = Sentences.MAX;
    private static final int STOOL = 0, WEDGE = 1, LAMP = 2, SLIT = 3, DOOR = 4, DOZER = 5;

    private final Sentences s;

    private RoomBounds(Sentences s) {
        this.s = s;
    }

    static void run(Sentences s) {
        RoomBounds all = new RoomBounds(s);
        all.calls();
        all.answers();
        all.cells();
        all.posts();
        all.sides();
        all.kindsThereAre();
        all.thiefAndRules();
        all.aNewObject();
        all.post();
        all.told();
        all.as();
        all.turns();
        all.set();
        all.moves();
        all.wall();
        all.at();
        all.thief();
        all.rule();
        all.drawnPosts();
        all.deal();
        all.seed();
    }

    private static RoomWatch with(int kind, int cell, int side) {
        RoomWatch x = new RoomWatch();
        x.post(kind, cell, side);
        return x;
    }

    private static RoomWatch eight() {
        RoomWatch x = new RoomWatch();
        for (int k = 0; k < 8; k++) x.post(STOOL, k, 0);
        return x;
    }

    // ---- what stands ahead of all

    private void calls() {
        s.holds(Sentences.AHEAD, "An object is used for at most 512 calls after it has been made; what later calls answer is free.");
        RoomWatch x = new RoomWatch();
        for (int call = 1; call < 512; call++) x.seed(call);
        s.is("the 512th call", 511, x.seed(0));
    }

    private void answers() {
        s.holds(Sentences.TERMS, "NONE: there is none.");
        RoomWatch x = new RoomWatch();
        s.is("whose it is", NONE, x.at(47, 0));
        s.is("a text", NONE, x.why(2));
        x.post(STOOL, 47, 0);
        s.is("whose it is then", 0, x.at(47, 0));

        s.holds(Sentences.TERMS, "Sets of POSTS are told by bits.");
        RoomWatch y = new RoomWatch();
        s.is("nobody", 0, y.room(3));
        for (int k = 0; k < 8; k++) {
            y.post(STOOL, k, 0);
            s.is("so many", (1 << k + 1) - 1, y.room(3));
        }
        y.hours(1);
        for (int k = 0; k < 8; k++) y.turns(k, LAMP);
        s.is("none is awake", 0, y.room(3));
        y.turns(7, STOOL);
        s.is("the last one", 128, y.room(3));
        y.turns(7, LAMP);
        y.turns(0, STOOL);
        s.is("the first one", 1, y.room(3));
    }

    // ---- 1 THE ROOM

    private void cells() {
        s.holds(Sentences.TERMS, "THE ROOM has CELLS 0 .. 47, eight in a row (row c by 8, 0 .. 5, column the rest)");
        for (int wrong : Sentences.outside(0, 47)) s.is("cell " + wrong, BAD, new RoomWatch().at(wrong, 1));
        s.is("the first cell", 0, new RoomWatch().at(0, 1));
        s.is("the last cell", 0, new RoomWatch().at(47, 1));
        int[][] slits = {{0, 1, 0, 255}, {7, 1, 0, 128}, {8, 3, 1, 1}, {40, 1, 5, 255}, {47, 3, 5, 255}};
        for (int[] t : slits) {
            RoomWatch x = with(SLIT, t[0], t[1]);
            for (int row = 0; row < 6; row++) {
                s.is("row " + row + " from " + t[0] + " to side " + t[1], row == t[2] ? t[3] : 0, x.row(0, row));
            }
        }
        RoomWatch column = with(SLIT, 7, 2);
        for (int row = 0; row < 6; row++) s.is("the last column, row " + row, 128, column.row(0, row));

        s.holds(Sentences.TERMS, "each with a WALL or not (not at first)");
        RoomWatch x = new RoomWatch();
        for (int cell = 0; cell < 48; cell++) s.is("wall at " + cell, 0, x.at(cell, 1));
        for (int cell = 1; cell < 48; cell++) s.is("a wall comes to " + cell, 0, x.wall(cell, 1));
        for (int cell = 1; cell < 48; cell++) s.is("it is at " + cell, 1, x.at(cell, 1));
        s.is("all but one have walls", 47, x.room(5));
    }

    private void posts() {
        s.holds(Sentences.TERMS, "POSTS, 8 at most, numbered from 0:");
        RoomWatch x = new RoomWatch();
        s.is("none", 0, x.count(0));
        for (int k = 0; k < 8; k++) s.is("post", k, x.post(STOOL, 40 + k, 0));
        s.is("a ninth", FULL, x.post(STOOL, 0, 0));
        s.is("eight", 8, x.count(0));
        s.is("the first", 40, x.told(0, 1));
        s.is("the last", 47, x.told(7, 1));
        s.is("no more", BAD, x.told(8, 1));

        s.holds(Sentences.TERMS, "CELL (one of its own, without a WALL)");
        s.refuses("post in a cell of another one", NO, States.RICH, y -> y.post(STOOL, 9, 0));
        s.refuses("post in a wall", NO, States.RICH, y -> y.post(STOOL, 10, 0));
        s.refuses("moves to a cell of another one", NO, States.RICH, y -> y.moves(1, 9));
        s.refuses("moves to a wall", NO, States.RICH, y -> y.moves(1, 10));
        s.refuses("a wall to a cell of a post", NO, States.RICH, y -> y.wall(9, 1));

        s.holds(Sentences.TERMS, "TIRED 0 .. 99 (0 at first)");
        RoomWatch y = with(DOZER, 1, 1);
        s.is("at first", 0, y.told(0, 3));
        s.is("to 99", 0, y.set(0, 3, 99));
        s.is("to 0", 99, y.set(0, 3, 0));
        for (int wrong : Sentences.outside(0, 99)) s.is("to " + wrong, BAD, y.set(0, 3, wrong));
    }

    private void sides() {
        s.holds(Sentences.TERMS, "SIDE 0 .. 3 (0 up to lesser rows, 1 to greater columns, 2 down, 3 back)");
        int[][] rows = {{8, 8, 8, 8, 0, 0}, {0, 0, 0, 0xF8, 0, 0}, {0, 0, 0, 8, 8, 8}, {0, 0, 0, 0x0F, 0, 0}};
        for (int side = 0; side < 4; side++) {
            RoomWatch x = with(SLIT, 27, side);
            for (int row = 0; row < 6; row++) s.is("a slit to " + side + ", row " + row, rows[side][row], x.row(0, row));
        }
        for (int wrong : Sentences.outside(0, 3)) {
            s.is("post with side " + wrong, BAD, new RoomWatch().post(STOOL, 0, wrong));
            s.is("set side " + wrong, BAD, with(STOOL, 0, 0).set(0, 2, wrong));
        }
    }

    private void kindsThereAre() {
        s.holds(Sentences.TERMS, "and of KINDS: 0 STOOL; 1 WEDGE, 2 LAMP, 5 DOZER, under STOOL; 3 SLIT, under WEDGE; 4 DOOR, under LAMP (all are POSTS).");
        String[] under = {"0", "01", "02", "013", "024", "05"};
        for (int kind = 0; kind < 6; kind++) {
            RoomWatch x = with(kind, 47, 0);
            s.is("kind", kind, x.told(0, 0));
            for (int taken = 0; taken < 6; taken++) {
                boolean is = under[kind].indexOf('0' + taken) >= 0;
                s.is(kind + " as " + taken, is ? 47 : KIND, x.as(0, taken));
            }
        }
        for (int wrong : Sentences.outside(0, 5)) s.is("kind " + wrong, BAD, new RoomWatch().post(wrong, 0, 0));
    }

    private void thiefAndRules() {
        s.holds(Sentences.TERMS, "THE THIEF is in a CELL without a WALL (0 at first; a POST may be there, too).");
        RoomWatch x = new RoomWatch();
        s.is("at first", 0, x.room(2));
        s.is("no wall where it is", NO, x.wall(0, 1));
        s.is("a post where it is", 0, x.post(STOOL, 0, 0));
        x.wall(47, 1);
        s.is("not to a wall", NO, x.thief(47));
        x.post(STOOL, 46, 0);
        s.is("to a post", 0, x.thief(46));
        s.is("it is there", 46, x.room(2));

        s.holds(Sentences.TERMS, "STEALTH 0 .. 100 (20 at first), TIRES 0 .. 100 (30).");
        int[] first = {20, 30};
        for (int what = 0; what < 2; what++) {
            RoomWatch y = new RoomWatch();
            s.is("at first", first[what], y.count(2 + what));
            s.is("to 0", first[what], y.rule(what, 0));
            s.is("is 0", 0, y.count(2 + what));
            s.is("to 100", 0, y.rule(what, 100));
            s.is("is 100", 100, y.count(2 + what));
            for (int wrong : Sentences.outside(0, 100)) s.is("to " + wrong, BAD, y.rule(what, wrong));
            s.is("the other one stays", first[1 - what], y.count(3 - what));
        }

        s.holds(Sentences.TERMS, "CAUGHT, UNSEEN are 0 at first; THE HOUR is 0 at first, 9999 at most.");
        RoomWatch z = new RoomWatch();
        s.is("caught", 0, z.room(0));
        s.is("unseen", 0, z.room(1));
        s.is("hour", 0, z.count(1));
        for (int k = 0; k < 99; k++) z.hours(100);
        z.hours(98);
        s.is("the last but one", 9998, z.count(1));
        z.hours(1);
        s.is("the last", 9999, z.count(1));
        z.hours(1);
        s.is("no further", 9999, z.count(1));
    }

    // ---- promises

    private void aNewObject() {
        s.holds(1, "As told; no POSTS, no WALLS; the thief is in CELL 0.");
        RoomWatch x = new RoomWatch();
        int[] counts = {0, 0, 20, 30, 0, 0, 0, 1};
        for (int what = 0; what < 8; what++) s.is("count " + what, counts[what], x.count(what));
        for (int what = 0; what < 6; what++) s.is("room " + what, 0, x.room(what));
        for (int cell = 0; cell < 48; cell++) {
            s.is("nobody's is " + cell, NONE, x.at(cell, 0));
            s.is("no wall at " + cell, 0, x.at(cell, 1));
        }
        s.is("no post", BAD, x.told(0, 0));
        s.is("no text", BAD, x.textTold(0, 0));
        for (int key = 0; key < 3; key++) s.is("no text for " + key, NONE, x.why(key));
        for (int sheet = 0; sheet < 4; sheet++) s.is("no sheet " + sheet, NOTHING, x.pour(sheet));
        for (int slot = 0; slot < 5; slot++) s.is("nothing in " + slot, NOTHING, x.rest(slot, 1));
        s.is("no image", NO, x.back());
        RoomWatch y = new RoomWatch();
        States.PACKED.on(y);
        s.is("whatever another object has", 0, new RoomWatch().count(0));
    }

    private void post() {
        s.holds(2, "One more POST: its number.");
        RoomWatch x = new RoomWatch();
        s.is("all the least", 0, x.post(0, 0, 0));
        s.is("all the most", 1, x.post(5, 47, 3));
        int[] least = {0, 0, 0, 0}, most = {5, 47, 3, 0};
        for (int what = 0; what < 4; what++) {
            s.is("of the first " + what, least[what], x.told(0, what));
            s.is("of the second " + what, most[what], x.told(1, what));
        }
        s.is("whose the last cell is", 1, x.at(47, 0));
        s.is("where the thief is", 2, afterThief(x, 30).post(1, 30, 1));
        s.leaves("post", States.RICH, y -> y.post(0, 1, 0), States.ROOM, States.TEXTS);

        s.holds(2, "BAD;");
        for (States.Run state : new States.Run[] {States.BARE, States.RICH, States.PACKED}) {
            for (int wrong : Sentences.outside(0, 5)) s.refuses("kind " + wrong, BAD, state, y -> y.post(wrong, 8, 0));
            for (int wrong : Sentences.outside(0, 47)) s.refuses("cell " + wrong, BAD, state, y -> y.post(0, wrong, 0));
            for (int wrong : Sentences.outside(0, 3)) s.refuses("side " + wrong, BAD, state, y -> y.post(0, 8, wrong));
        }
        s.refuses("ahead of NO, kind", BAD, States.RICH, y -> y.post(6, 9, 0));
        s.refuses("ahead of NO, side", BAD, States.RICH, y -> y.post(0, 10, 4));

        s.holds(2, "NO: the CELL is somebody's, or has a WALL;");
        for (int cell : States.RICH_CELLS) s.refuses("somebody's " + cell, NO, States.RICH, y -> y.post(0, cell, 0));
        for (int cell : States.RICH_WALLS) s.refuses("a wall " + cell, NO, States.RICH, y -> y.post(0, cell, 0));
        s.refuses("ahead of FULL, somebody's", NO, States.PACKED, y -> y.post(0, 42, 0));
        s.refuses("ahead of FULL, a wall", NO, States.PACKED, y -> y.post(0, 47, 0));
        RoomWatch left = with(STOOL, 3, 0);
        left.moves(0, 4);
        s.is("a cell that was left", 1, left.post(0, 3, 0));
        left.wall(5, 1);
        left.wall(5, 0);
        s.is("a wall that went away", 2, left.post(0, 5, 0));

        s.holds(2, "FULL.");
        s.refuses("a ninth", FULL, States.PACKED, y -> y.post(0, 20, 0));
        RoomWatch seven = new RoomWatch();
        for (int k = 0; k < 7; k++) seven.post(0, k, 0);
        s.is("the eighth", 7, seven.post(0, 47, 0));
        s.is("the ninth", FULL, seven.post(0, 46, 0));
    }

    private static RoomWatch afterThief(RoomWatch x, int cell) {
        x.thief(cell);
        return x;
    }

    private void told() {
        s.holds(3, "Of a POST: what 0 KIND, 1 CELL, 2 SIDE, 3 TIRED, 4 whether it is AWAKE (1, 0), 5 REACHES, 6 how many CELLS it SEES, 7 WORTH.");
        RoomWatch x = with(STOOL, 0, 0);
        Due.text(x, "reach 0");
        int[] least = {0, 0, 0, 0, 1, 0, 1, 0};
        for (int what = 0; what < 8; what++) s.is("the least of " + what, least[what], x.told(0, what));
        x.turns(0, DOZER);
        x.moves(0, 47);
        x.set(0, 2, 3);
        x.set(0, 3, 99);
        Due.text(x, "reach 99");
        int[] most = {5, 47, 3, 99, 0, 99, 48, 3};
        for (int what = 0; what < 8; what++) s.is("the most of " + what, most[what], x.told(0, what));
        x.turns(0, SLIT);
        s.is("a slit reaches farthest", 202, x.told(0, 5));
        s.is("a slit is worth most", 206, x.told(0, 7));
        x.turns(0, DOOR);
        s.is("a door is worth least", -6, x.told(0, 7));
        for (int what = 0; what < 8; what++) {
            int told = what;
            s.quiet("told " + what, States.RICH, y -> y.told(5, told));
        }

        s.holds(3, "BAD.");
        for (int wrong : Sentences.outside(0, 5)) s.refuses("post " + wrong, BAD, States.RICH, y -> y.told(wrong, 0));
        for (int wrong : Sentences.outside(0, 7)) {
            s.refuses("post of eight " + wrong, BAD, States.PACKED, y -> y.told(wrong, 0));
            s.refuses("what " + wrong, BAD, States.RICH, y -> y.told(0, wrong));
        }
        s.refuses("no post at all", BAD, States.BARE, y -> y.told(0, 0));
        s.is("the last of eight", 42, States.after(States.PACKED).told(7, 1));
    }

    private void as() {
        s.holds(4, "A POST as one of a KIND: CELL.");
        RoomWatch x = States.after(States.RICH);
        for (int kind = 0; kind < 6; kind++) {
            s.is("as it is " + kind, States.RICH_CELLS[kind], x.as(kind, kind));
            s.is("as a stool " + kind, States.RICH_CELLS[kind], x.as(kind, STOOL));
        }
        s.is("two under: a slit as a wedge", 40, x.as(SLIT, WEDGE));
        s.is("two under: a door as a lamp", 47, x.as(DOOR, LAMP));
        s.is("cell 0", 0, with(SLIT, 0, 0).as(0, WEDGE));
        s.is("it stays what it is", SLIT, x.told(SLIT, 0));

        s.holds(4, "BAD: post, kind;");
        for (int wrong : Sentences.outside(0, 5)) {
            s.refuses("post " + wrong, BAD, States.RICH, y -> y.as(wrong, 0));
            s.refuses("kind " + wrong, BAD, States.RICH, y -> y.as(0, wrong));
        }
        s.refuses("no post at all", BAD, States.BARE, y -> y.as(0, 0));
        s.refuses("the ninth", BAD, States.PACKED, y -> y.as(8, 0));

        s.holds(4, "KIND: it is not of that KIND, nor of one under it.");
        int[][] not = {{STOOL, WEDGE}, {STOOL, LAMP}, {STOOL, SLIT}, {STOOL, DOOR}, {STOOL, DOZER}, {WEDGE, SLIT}, {WEDGE, LAMP},
            {LAMP, DOOR}, {LAMP, WEDGE}, {SLIT, LAMP}, {SLIT, DOOR}, {SLIT, DOZER}, {DOOR, WEDGE}, {DOOR, SLIT}, {DOOR, DOZER},
            {DOZER, WEDGE}, {DOZER, LAMP}};
        for (int[] t : not) s.refuses(t[0] + " as " + t[1], KIND, States.RICH, y -> y.as(t[0], t[1]));
        x.turns(STOOL, SLIT);
        s.is("a stool that is a slit from now on", 9, x.as(0, WEDGE));
        x.turns(SLIT, STOOL);
        s.is("a slit that is a stool from now on", KIND, x.as(SLIT, WEDGE));
    }

    private void turns() {
        s.holds(5, "A POST is of another KIND from now on: what it was.");
        RoomWatch x = with(STOOL, 5, 1);
        int was = STOOL;
        for (int kind : new int[] {5, 4, 3, 2, 1, 0, 0, 5, 5}) {
            s.is("turns to " + kind, was, x.turns(0, kind));
            s.is("it is " + kind, kind, x.told(0, 0));
            was = kind;
        }
        s.is("its cell stays", 5, x.told(0, 1));
        s.is("its side stays", 1, x.told(0, 2));
        x.set(0, 3, 44);
        x.turns(0, LAMP);
        s.is("as tired as it was", 44, x.told(0, 3));
        s.leaves("turns", States.RICH, y -> y.turns(5, 0), States.ROOM, States.TEXTS);

        s.holds(5, "BAD.");
        for (int wrong : Sentences.outside(0, 5)) {
            s.refuses("post " + wrong, BAD, States.RICH, y -> y.turns(wrong, 3));
            s.refuses("kind " + wrong, BAD, States.RICH, y -> y.turns(0, wrong));
        }
        s.refuses("no post at all", BAD, States.BARE, y -> y.turns(0, 0));
        s.refuses("the ninth", BAD, States.PACKED, y -> y.turns(8, 0));
        s.is("the eighth", 1, States.after(States.PACKED).turns(7, 0));
    }

    private void set() {
        s.holds(6, "SIDE, TIRED (what 2, 3) of a POST becomes v: what it was.");
        RoomWatch x = with(STOOL, 5, 2);
        s.is("side to the least", 2, x.set(0, 2, 0));
        s.is("side to the most", 0, x.set(0, 2, 3));
        s.is("tired to the least", 0, x.set(0, 3, 0));
        s.is("tired to the most", 0, x.set(0, 3, 99));
        s.is("tired again", 99, x.set(0, 3, 99));
        s.is("side is", 3, x.told(0, 2));
        s.is("tired is", 99, x.told(0, 3));
        s.leaves("side", States.RICH, y -> y.set(5, 2, 3), States.ROOM, States.TEXTS);
        s.leaves("tired", States.RICH, y -> y.set(5, 3, 77), States.ROOM, States.TEXTS);

        s.holds(6, "BAD.");
        for (int wrong : Sentences.outside(0, 5)) s.refuses("post " + wrong, BAD, States.RICH, y -> y.set(wrong, 2, 1));
        for (int wrong : new int[] {0, 1, 4, -1, MIN, MAX}) s.refuses("what " + wrong, BAD, States.RICH, y -> y.set(2, wrong, 1));
        for (int wrong : Sentences.outside(0, 3)) s.refuses("side " + wrong, BAD, States.RICH, y -> y.set(2, 2, wrong));
        for (int wrong : Sentences.outside(0, 99)) s.refuses("tired " + wrong, BAD, States.RICH, y -> y.set(2, 3, wrong));
        s.refuses("no post at all", BAD, States.BARE, y -> y.set(0, 2, 0));
        s.refuses("the ninth", BAD, States.PACKED, y -> y.set(8, 3, 0));
        RoomWatch eight = eight();
        s.is("the eighth", 0, eight.set(7, 2, 3));
        s.is("is so", 3, eight.told(7, 2));
    }

    private void moves() {
        s.holds(7, "A POST has another CELL: which it had.");
        RoomWatch x = with(STOOL, 20, 0);
        s.is("to the first", 20, x.moves(0, 0));
        s.is("to the last", 0, x.moves(0, 47));
        s.is("back, as nobody has it", 47, x.moves(0, 20));
        s.is("it is there", 20, x.told(0, 1));
        s.is("its cell is its", 0, x.at(20, 0));
        s.is("the last is nobody's", NONE, x.at(47, 0));
        s.is("to where the thief is", 20, afterThief(x, 33).moves(0, 33));
        RoomWatch same = with(SLIT, 0, 3);
        same.set(0, 3, 44);
        same.moves(0, 1);
        s.is("the same kind", SLIT, same.told(0, 0));
        s.is("the same side", 3, same.told(0, 2));
        s.is("as tired as it was", 44, same.told(0, 3));
        s.leaves("moves", States.RICH, y -> y.moves(5, 0), States.ROOM, States.TEXTS);

        s.holds(7, "BAD;");
        for (int wrong : Sentences.outside(0, 5)) s.refuses("post " + wrong, BAD, States.RICH, y -> y.moves(wrong, 0));
        for (int wrong : Sentences.outside(0, 47)) s.refuses("cell " + wrong, BAD, States.RICH, y -> y.moves(0, wrong));
        s.refuses("ahead of NO", BAD, States.RICH, y -> y.moves(6, 9));
        s.refuses("no post at all", BAD, States.BARE, y -> y.moves(0, 1));

        s.holds(7, "NO: that is somebody's (its own, too), or has a WALL.");
        for (int post = 0; post < 6; post++) {
            int mover = post;
            for (int cell : States.RICH_CELLS) s.refuses(post + " to " + cell, NO, States.RICH, y -> y.moves(mover, cell));
            for (int cell : States.RICH_WALLS) s.refuses(post + " to " + cell, NO, States.RICH, y -> y.moves(mover, cell));
        }
    }

    private void wall() {
        s.holds(8, "A CELL has a WALL (is 1), or none (is 0): whether it had one (1, 0).");
        RoomWatch x = with(STOOL, 20, 0);
        for (int cell : new int[] {1, 47}) {
            s.is("none, to none " + cell, 0, x.wall(cell, 0));
            s.is("none, to one " + cell, 0, x.wall(cell, 1));
            s.is("one, to one " + cell, 1, x.wall(cell, 1));
            s.is("it has one " + cell, 1, x.at(cell, 1));
            s.is("one, to none " + cell, 1, x.wall(cell, 0));
            s.is("it has none " + cell, 0, x.at(cell, 1));
        }
        s.is("none, where a post is", 0, x.wall(20, 0));
        s.is("none, where the thief is", 0, x.wall(0, 0));
        x.thief(47);
        s.is("the first cell, as the thief has gone", 0, x.wall(0, 1));
        s.leaves("a wall comes", States.RICH, y -> y.wall(0, 1), States.ROOM);
        s.leaves("a wall goes", States.RICH, y -> y.wall(10, 0), States.ROOM);
        s.leaves("a wall stays", States.RICH, y -> y.wall(10, 1));
        s.leaves("no wall comes", States.RICH, y -> y.wall(9, 0));

        s.holds(8, "BAD;");
        for (int wrong : Sentences.outside(0, 47)) {
            s.refuses("cell " + wrong + " to one", BAD, States.RICH, y -> y.wall(wrong, 1));
            s.refuses("cell " + wrong + " to none", BAD, States.RICH, y -> y.wall(wrong, 0));
        }
        for (int wrong : Sentences.outside(0, 1)) {
            s.refuses("is " + wrong, BAD, States.RICH, y -> y.wall(1, wrong));
            s.refuses("ahead of NO, is " + wrong, BAD, States.RICH, y -> y.wall(9, wrong));
        }

        s.holds(8, "NO: it is to have one, and is somebody's, or THE THIEF is there.");
        for (int cell : States.RICH_CELLS) s.refuses("somebody's " + cell, NO, States.RICH, y -> y.wall(cell, 1));
        s.refuses("the thief", NO, States.RICH, y -> y.wall(States.RICH_THIEF, 1));
        s.refuses("the thief in a new object", NO, States.BARE, y -> y.wall(0, 1));
        s.is("beside the thief", 0, States.after(States.RICH).wall(States.RICH_THIEF + 1, 1));
        s.is("beside a post", 0, States.after(States.RICH).wall(8, 1));
    }

    private void at() {
        s.holds(9, "Of a CELL: what 0 whose it is (NONE: nobody's), 1 whether it has a WALL (1, 0).");
        RoomWatch x = eight();
        for (int cell = 0; cell < 9; cell++) s.is("whose " + cell, cell < 8 ? cell : NONE, x.at(cell, 0));
        x.wall(47, 1);
        s.is("a wall in the last", 1, x.at(47, 1));
        s.is("a wall is nobody's", NONE, x.at(47, 0));
        s.is("none where a post is", 0, x.at(7, 1));
        x.thief(46);
        s.is("the thief's is nobody's", NONE, x.at(46, 0));
        s.quiet("whose", States.RICH, y -> y.at(47, 0));
        s.quiet("a wall", States.RICH, y -> y.at(10, 1));

        s.holds(9, "BAD.");
        for (int wrong : Sentences.outside(0, 47)) {
            s.refuses("cell " + wrong, BAD, States.RICH, y -> y.at(wrong, 0));
            s.refuses("cell " + wrong + ", wall", BAD, States.RICH, y -> y.at(wrong, 1));
        }
        for (int wrong : Sentences.outside(0, 1)) s.refuses("what " + wrong, BAD, States.RICH, y -> y.at(0, wrong));
    }

    private void thief() {
        s.holds(10, "THE THIEF is in a CELL: in which it was.");
        RoomWatch x = with(STOOL, 20, 0);
        s.is("to the last", 0, x.thief(47));
        s.is("to the first", 47, x.thief(0));
        s.is("to where it is", 0, x.thief(0));
        s.is("to a post", 0, x.thief(20));
        s.is("it is there", 20, x.room(2));
        s.leaves("thief", States.RICH, y -> y.thief(0), States.ROOM);
        s.leaves("the thief stays", States.RICH, y -> y.thief(States.RICH_THIEF));

        s.holds(10, "BAD;");
        for (int wrong : Sentences.outside(0, 47)) s.refuses("cell " + wrong, BAD, States.RICH, y -> y.thief(wrong));

        s.holds(10, "NO: that has a WALL.");
        for (int cell : States.RICH_WALLS) s.refuses("a wall " + cell, NO, States.RICH, y -> y.thief(cell));
        x.wall(47, 1);
        s.is("a wall in the last", NO, x.thief(47));
        x.wall(47, 0);
        s.is("a wall that went away", 20, x.thief(47));
    }

    private void rule() {
        s.holds(11, "STEALTH, TIRES (what 0, 1) becomes v: what it was.");
        for (int what = 0; what < 2; what++) {
            RoomWatch x = new RoomWatch();
            s.is("to 100", what == 0 ? 20 : 30, x.rule(what, 100));
            s.is("to 0", 100, x.rule(what, 0));
            s.is("to 0 again", 0, x.rule(what, 0));
            s.is("it is 0", 0, x.count(2 + what));
            s.is("the other one is as it was", what == 0 ? 30 : 20, x.count(3 - what));
            int rule = what;
            s.leaves("rule", States.RICH, y -> y.rule(rule, 1), States.ROOM);
        }

        s.holds(11, "BAD.");
        for (int wrong : Sentences.outside(0, 1)) s.refuses("what " + wrong, BAD, States.RICH, y -> y.rule(wrong, 1));
        for (int wrong : Sentences.outside(0, 100)) {
            s.refuses("stealth " + wrong, BAD, States.RICH, y -> y.rule(0, wrong));
            s.refuses("tires " + wrong, BAD, States.RICH, y -> y.rule(1, wrong));
        }
    }

    // ---- lots

    private void drawnPosts() {
        s.holds(Sentences.TERMS, "z is told (1 at first).");
        s.is("at first", 1, new RoomWatch().count(7));
        s.is("by seed", 1, new RoomWatch().seed(9));

        s.holds(Sentences.TERMS, "A draw: z becomes z * 1103515245 + 12345 (an int); it gives z >>> 8.");
        int[][] three = {{0, -1492899873}, {1, 662824084}, {-1, 646343466}, {2, -1476419255}, {MIN, 654583775}, {MAX, -1501140182}};
        for (int[] t : three) {
            RoomWatch x = new RoomWatch();
            x.seed(t[0]);
            x.hours(1);
            s.is("three draws from " + t[0], t[1], x.count(7));
        }
        for (int seed : new int[] {0, 1, -1, MIN, MAX, 77, -77, MIN + 1, MAX - 1}) {
            RoomWatch x = new RoomWatch();
            x.seed(seed);
            x.deal(1);
            Lot lot = new Lot(seed);
            s.is("kind from " + seed, lot.draw() % 6, x.told(0, 0));
            s.is("cell from " + seed, lot.draw() % 48, x.told(0, 1));
            s.is("side from " + seed, lot.draw() % 4, x.told(0, 2));
            s.is("tired from " + seed, lot.draw() % 60, x.told(0, 3));
            s.is("z from " + seed, lot.z(), x.count(7));
        }

        s.holds(Sentences.TERMS, "POSTS that are drawn: KIND the rest of a draw by 6,");
        for (int kind = 0; kind < 6; kind++) s.is("kind", kind, dealt(Lot.seed(1, 6, kind)).told(0, 0));

        s.holds(Sentences.TERMS, "CELL that of one more by 48 (the next one that is nobody's and has no WALL, round, if it is not so),");
        for (int cell : new int[] {0, 1, 46, 47}) s.is("a free one", cell, dealt(Lot.seed(2, 48, cell)).told(0, 1));
        nextCell("its cell has a wall", 20, 21, x -> x.wall(20, 1));
        nextCell("its cell is somebody's", 20, 21, x -> x.post(STOOL, 20, 0));
        nextCell("a wall, then somebody's", 20, 22, x -> {
            x.wall(20, 1);
            x.post(STOOL, 21, 0);
        });
        nextCell("the last one: round to the first", 47, 0, x -> x.wall(47, 1));
        nextCell("round, and on", 46, 1, x -> {
            x.thief(30);
            x.wall(46, 1);
            x.post(STOOL, 47, 0);
            x.wall(0, 1);
        });
        nextCell("all the way round", 31, 30, x -> {
            x.thief(30);
            for (int cell = 0; cell < 48; cell++) x.wall(cell, 1);
        });
        nextCell("where the thief is", 30, 30, x -> x.thief(30));

        s.holds(Sentences.TERMS, "SIDE that of one more by 4, TIRED that of one more by 60");
        for (int side = 0; side < 4; side++) s.is("side", side, dealt(Lot.seed(3, 4, side)).told(0, 2));
        for (int tired : new int[] {0, 1, 58, 59}) s.is("tired", tired, dealt(Lot.seed(4, 60, tired)).told(0, 3));

        s.holds(Sentences.TERMS, "(if there is no such CELL: all four are drawn, that one does not come, and no more are drawn).");
        for (int free = 0; free < 4; free++) {
            for (int n = 1; n <= 8; n++) {
                RoomWatch x = walled(free);
                x.seed(5);
                s.is("deal " + n + " to " + free, Math.min(n, free), x.deal(n));
                s.is("draws for " + n + " to " + free, Lot.zAfter(5, 4 * Math.min(n, free + 1)), x.count(7));
                s.is("posts then", 1 + Math.min(n, free), x.count(0));
            }
        }
    }

    private static RoomWatch dealt(int seed) {
        RoomWatch x = new RoomWatch();
        x.seed(seed);
        x.deal(1);
        return x;
    }

    private void nextCell(String call, int drawn, int comes, States.Run before) {
        RoomWatch x = States.after(before);
        int others = x.count(0);
        x.seed(Lot.seed(2, 48, drawn));
        s.is(call, 1, x.deal(1));
        s.is(call + ": it comes to", comes, x.told(others, 1));
    }

    /** A post where the thief is, and so many free cells beside all the walls. */
    private static RoomWatch walled(int free) {
        RoomWatch x = new RoomWatch();
        x.post(STOOL, 0, 0);
        for (int cell = 1 + free; cell < 48; cell++) x.wall(cell, 1);
        return x;
    }

    private void deal() {
        s.holds(12, "POSTS are drawn, n (1 .. 8) of them,");
        for (int n = 1; n <= 8; n++) {
            RoomWatch x = new RoomWatch();
            x.seed(n);
            s.is("deal " + n, n, x.deal(n));
            s.is("posts", n, x.count(0));
            s.is("draws", Lot.zAfter(n, 4 * n), x.count(7));
        }

        s.holds(12, "as many as there is room for (no draws for others): how many came.");
        for (int there = 0; there <= 8; there++) {
            for (int n = 1; n <= 8; n++) {
                RoomWatch x = new RoomWatch();
                for (int k = 0; k < there; k++) x.post(STOOL, k, 0);
                x.seed(9);
                int come = Math.min(n, 8 - there);
                s.is("deal " + n + " to " + there, come, x.deal(n));
                s.is("draws", Lot.zAfter(9, 4 * come), x.count(7));
                s.is("posts", there + come, x.count(0));
            }
        }
        s.leaves("deal", States.RICH, x -> x.deal(8), States.ROOM, States.TEXTS);
        s.leaves("deal where there is no room", States.PACKED, x -> x.deal(8));
        RoomWatch none = eight();
        for (int cell = 8; cell < 48; cell++) none.wall(cell, 1);
        s.is("neither posts nor cells", 0, none.deal(8));
        s.is("no draws", 1, none.count(7));

        s.holds(12, "BAD.");
        for (int wrong : Sentences.outside(1, 8)) {
            s.refuses("n " + wrong, BAD, States.RICH, x -> x.deal(wrong));
            s.refuses("n " + wrong + " where there is no room", BAD, States.PACKED, x -> x.deal(wrong));
        }
    }

    private void seed() {
        s.holds(13, "z becomes v: what it was.");
        RoomWatch x = new RoomWatch();
        int was = 1;
        for (int v : new int[] {0, -1, MIN, MAX, BAD, NONE, 1, 1}) {
            s.is("to " + v, was, x.seed(v));
            s.is("it is " + v, v, x.count(7));
            was = v;
        }
        s.leaves("seed", States.RICH, y -> y.seed(5), States.ROOM);
    }
}
