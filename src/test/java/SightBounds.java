/** Boundary cases of sight: where posts look, how far, past what; promises 14 to 20. */
final class SightBounds {
    private static final int BAD = Sentences.BAD, FULL = Sentences.FULL, NONE = Sentences.NONE;
    private static final int STOOL = 0, WEDGE = 1, LAMP = 2, SLIT = 3, DOOR = 4, DOZER = 5;
    private static final String DARK = "........";

    private final Sentences s;

    private SightBounds(Sentences s) {
        this.s = s;
    }

    static void run(Sentences s) {
        SightBounds all = new SightBounds(s);
        all.looks();
        all.plainReach();
        all.reaches();
        all.awake();
        all.worth();
        all.kindsNotNamed();
        all.ownCell();
        all.between();
        all.watchedAndBlind();
        all.spareAndFewest();
        all.standAndSneak();
        all.sees();
        all.row();
        all.watched();
        all.spare();
        all.fewest();
        all.stand();
        all.sneak();
    }

    private static RoomWatch with(int kind, int cell, int side, String... laws) {
        RoomWatch x = new RoomWatch();
        x.post(kind, cell, side);
        for (String law : laws) Due.text(x, law);
        return x;
    }

    /** What post 0 sees, row by row. */
    private void picture(String call, RoomWatch x, String... rows) {
        for (int row = 0; row < 6; row++) {
            int set = 0;
            for (int column = 0; column < 8; column++) set |= rows[row].charAt(column) == '#' ? 1 << column : 0;
            s.is(call + ", row " + row, set, x.row(0, row));
            for (int column = 0; column < 8; column++) {
                s.is(call + ", cell " + (8 * row + column), set >> column & 1, x.sees(0, 8 * row + column));
            }
        }
    }

    private void sees(String call, RoomWatch x, int last, int first) {
        s.is(call + ": the last that it sees", 1, x.sees(0, last));
        s.is(call + ": the first that it does not", 0, x.sees(0, first));
    }

    // ---- where

    private void looks() {
        s.holds(Sentences.TERMS, "LOOKS (at a CELL so many rows and columns off): STOOL: at all.");
        for (int side = 0; side < 4; side++) {
            for (int cell : new int[] {0, 7, 40, 47, 27}) {
                s.is("a stool in " + cell + " to " + side, 48, with(STOOL, cell, side, "reach 99").told(0, 6));
            }
        }

        s.holds(Sentences.TERMS, "WEDGE: if it is ahead, to its SIDE, by as many as it is off to either other side, or more.");
        picture("up", with(WEDGE, 27, 0, "reach 99"), "#######.", ".#####..", "..###...", "...#....", DARK, DARK);
        picture("to greater columns", with(WEDGE, 27, 1, "reach 99"), "......##", ".....###", "....####", "...#####", "....####", ".....###");
        picture("down", with(WEDGE, 27, 2, "reach 99"), DARK, DARK, DARK, "...#....", "..###...", ".#####..");
        picture("back", with(WEDGE, 27, 3, "reach 99"), "#.......", "##......", "###.....", "####....", "###.....", "##......");
        picture("out of the room", with(WEDGE, 0, 0, "reach 99"), "#.......", DARK, DARK, DARK, DARK, DARK);

        s.holds(Sentences.TERMS, "SLIT: as WEDGE, and straight ahead.");
        picture("up", with(SLIT, 27, 0, "reach 99"), "...#....", "...#....", "...#....", "...#....", DARK, DARK);
        picture("to greater columns", with(SLIT, 27, 1, "reach 99"), DARK, DARK, DARK, "...#####", DARK, DARK);
        picture("down", with(SLIT, 27, 2, "reach 99"), DARK, DARK, DARK, "...#....", "...#....", "...#....");
        picture("back", with(SLIT, 27, 3, "reach 99"), DARK, DARK, DARK, "####....", DARK, DARK);
        picture("out of the room", with(SLIT, 47, 1, "reach 99"), DARK, DARK, DARK, DARK, DARK, ".......#");

        s.holds(Sentences.TERMS, "DOOR: as LAMP, and 2 off at most (rows and columns, together).");
        for (int side = 0; side < 4; side++) {
            picture("to all sides", with(DOOR, 27, side, "reach 99"), DARK, "...#....", "..###...", ".#####..", "..###...", "...#....");
        }
        picture("in a corner", with(DOOR, 47, 0, "reach 2"), DARK, DARK, DARK, ".......#", "......##", ".....###");
        picture("that reaches 1 alone", with(DOOR, 27, 0, "reach 1"), DARK, DARK, "...#....", "..###...", "...#....", DARK);
        picture("that reaches none", with(DOOR, 27, 0, "reach 0"), DARK, DARK, DARK, "...#....", DARK, DARK);
    }

    // ---- how far

    private void plainReach() {
        s.holds(Sentences.TERMS, "PLAIN reach: what reach gives, held within 0 .. 99 (without a TEXT: 5).");
        RoomWatch x = with(STOOL, 0, 0);
        s.is("without a text", 5, x.told(0, 5));
        sees("without a text", x, 5, 6);
        sees("without a text, down and aside", x, 8 * 2 + 3, 8 * 2 + 4);
        String[] laws = {"reach 0-1", "reach 0", "reach 1", "reach 98", "reach 99", "reach 100", "reach 9999", "reach 0-9999",
            "reach 32*8192*8192", "reach 32*8192*8192-1"};
        int[] gives = {0, 0, 1, 98, 99, 99, 99, 0, 0, 99};
        for (int k = 0; k < laws.length; k++) s.is(laws[k], gives[k], with(STOOL, 0, 0, laws[k]).told(0, 5));
        picture("0", with(STOOL, 0, 0, "reach 0"), "#.......", DARK, DARK, DARK, DARK, DARK);
        picture("1", with(STOOL, 0, 0, "reach 1"), "##......", "#.......", DARK, DARK, DARK, DARK);
        picture("11", with(STOOL, 0, 0, "reach 11"), "########", "########", "########", "########", "########", "#######.");
        s.is("12", 48, with(STOOL, 0, 0, "reach 12").told(0, 6));
    }

    private void reaches() {
        s.holds(Sentences.TERMS, "REACHES: STOOL: PLAIN. WEDGE: as STOOL, and 2. SLIT: twice as WEDGE.");
        int[] least = {0, 2, 0, 4, 0, 0}, most = {99, 101, 99, 202, 99, 99}, plain = {5, 7, 5, 14, 5, 5};
        for (int kind = 0; kind < 6; kind++) {
            s.is("the least of " + kind, least[kind], with(kind, 0, 1, "reach 0-50").told(0, 5));
            s.is("the most of " + kind, most[kind], with(kind, 0, 1, "reach 5000").told(0, 5));
            s.is("without a text of " + kind, plain[kind], with(kind, 0, 1).told(0, 5));
        }
        sees("a wedge of 0", with(WEDGE, 0, 1, "reach 0"), 2, 3);
        sees("a wedge of 0, aside", with(WEDGE, 0, 1, "reach 0"), 9, 10);
        sees("a wedge of 4", with(WEDGE, 0, 1, "reach 4"), 6, 7);
        s.is("a wedge of 5", 1, with(WEDGE, 0, 1, "reach 5").sees(0, 7));
        sees("a slit of 0", with(SLIT, 0, 1, "reach 0"), 4, 5);
        sees("a slit of 1", with(SLIT, 0, 1, "reach 1"), 6, 7);
        s.is("a slit of 2", 1, with(SLIT, 0, 1, "reach 2").sees(0, 7));
    }

    // ---- when

    private void awake() {
        s.holds(Sentences.TERMS, "AWAKE: STOOL: always. LAMP: in even HOURS. DOOR: as LAMP, or if THE HOUR is without rest by 3.");
        RoomWatch x = new RoomWatch();
        for (int kind = 0; kind < 5; kind++) x.post(kind, kind, 0);
        int[] lamp = {1, 0, 1, 0, 1, 0, 1, 0, 1, 0, 1, 0, 1};
        int[] door = {1, 0, 1, 1, 1, 0, 1, 0, 1, 1, 1, 0, 1};
        for (int hour = 0; hour <= 12; hour++) {
            s.is("a stool in hour " + hour, 1, x.told(STOOL, 4));
            s.is("a wedge in hour " + hour, 1, x.told(WEDGE, 4));
            s.is("a slit in hour " + hour, 1, x.told(SLIT, 4));
            s.is("a lamp in hour " + hour, lamp[hour], x.told(LAMP, 4));
            s.is("a door in hour " + hour, door[hour], x.told(DOOR, 4));
            x.hours(1);
        }
        for (int k = 0; k < 99; k++) x.hours(100);
        x.hours(85);
        s.is("the hour", 9998, x.count(1));
        s.is("a lamp in hour 9998", 1, x.told(LAMP, 4));
        x.hours(1);
        s.is("a lamp in hour 9999", 0, x.told(LAMP, 4));
        s.is("a door in hour 9999", 1, x.told(DOOR, 4));
        x.set(STOOL, 3, 99);
        s.is("a stool of 99", 1, x.told(STOOL, 4));

        s.holds(Sentences.TERMS, "DOZER: if it is less than 50 TIRED.");
        RoomWatch y = with(DOZER, 0, 0);
        int[][] tired = {{0, 1}, {49, 1}, {50, 0}, {51, 0}, {99, 0}};
        for (int hour = 0; hour < 2; hour++) {
            for (int[] t : tired) {
                y.set(0, 3, t[0]);
                s.is("of " + t[0] + " in hour " + hour, t[1], y.told(0, 4));
            }
            y.hours(1);
        }
    }

    private void worth() {
        s.holds(Sentences.TERMS, "WORTH: STOOL: TIRED. WEDGE: as STOOL, and 4. SLIT: twice as WEDGE. LAMP: 99 less TIRED. DOOR: as LAMP, less 6. DOZER: 3.");
        int[] fresh = {0, 4, 99, 8, 93, 3}, tired = {99, 103, 0, 206, -6, 3}, one = {1, 5, 98, 10, 92, 3};
        for (int kind = 0; kind < 6; kind++) {
            RoomWatch x = with(kind, 0, 0);
            s.is("not tired, kind " + kind, fresh[kind], x.told(0, 7));
            x.set(0, 3, 99);
            s.is("of 99, kind " + kind, tired[kind], x.told(0, 7));
            x.set(0, 3, 1);
            s.is("of 1, kind " + kind, one[kind], x.told(0, 7));
        }
    }

    private void kindsNotNamed() {
        s.holds(Sentences.TERMS, "(A KIND that is not named does as the one above it.)");
        String[] all = {"######..", "#####...", "####....", "###.....", "##......", "#......."};
        picture("a lamp looks as a stool", with(LAMP, 0, 1), all);
        picture("a dozer looks as a stool", with(DOZER, 0, 1), all);
        s.is("a lamp reaches as a stool", 5, with(LAMP, 0, 0).told(0, 5));
        s.is("a door reaches as a lamp", 5, with(DOOR, 0, 0).told(0, 5));
        s.is("a dozer reaches as a stool", 5, with(DOZER, 0, 0).told(0, 5));
        RoomWatch x = with(WEDGE, 0, 0);
        x.post(SLIT, 1, 0);
        x.set(0, 3, 99);
        x.set(1, 3, 99);
        x.hours(1);
        s.is("a wedge is awake as a stool", 1, x.told(0, 4));
        s.is("a slit is awake as a wedge", 1, x.told(1, 4));
    }

    // ---- past what

    private void ownCell() {
        s.holds(Sentences.TERMS, "SEES (AWAKE or not): its own CELL;");
        for (int kind = 0; kind < 6; kind++) {
            for (int cell : new int[] {0, 47}) {
                RoomWatch x = with(kind, cell, cell == 0 ? 0 : 2, "reach 0");
                s.is("alone, kind " + kind + " in " + cell, 1, x.told(0, 6));
                s.is("its own, kind " + kind + " in " + cell, 1, x.sees(0, cell));
                x.set(0, 3, 50);
                x.hours(1);
                s.is("awake or not, kind " + kind + " in " + cell, 1, x.sees(0, cell));
            }
        }
        RoomWatch lamp = with(LAMP, 0, 0);
        int many = lamp.told(0, 6);
        lamp.hours(1);
        s.is("a lamp is out", 0, lamp.told(0, 4));
        s.is("it sees as before", many, lamp.told(0, 6));

        s.holds(Sentences.TERMS, "and one without a WALL at which it LOOKS, that it REACHES (rows and columns off, together),");
        RoomWatch x = with(STOOL, 27, 0, "reach 3");
        picture("three off", x, "...#....", "..###...", ".#####..", "#######.", ".#####..", "..###...");
        x.wall(26, 1);
        s.is("a wall beside it", 0, x.sees(0, 26));
        x.wall(26, 0);
        s.is("no wall there any more", 1, x.sees(0, 26));
    }

    /** Every wall but those in between leaves it in sight. */
    private void through(int from, int to, int... walls) {
        RoomWatch x = with(STOOL, from, 0, "reach 99");
        x.thief(from);
        for (int wall = 0; wall < 48; wall++) {
            if (wall == from || wall == to) continue;
            boolean hides = false;
            for (int each : walls) hides |= each == wall;
            x.wall(wall, 1);
            s.is("from " + from + " to " + to + " past " + wall, hides ? 0 : 1, x.sees(0, to));
            x.wall(wall, 0);
        }
    }

    private void between() {
        s.holds(Sentences.TERMS, "if between them nothing stands: with d rows, e columns off (below 0: the other way) and n the greater one of these without signs, "
            + "in steps k of 1 .. n less 1 the CELL by d times k, by e times k, each by n");
        through(18, 19);
        through(18, 17);
        through(18, 10);
        through(18, 26);
        through(18, 27);
        through(18, 9);
        through(18, 20, 19);
        through(18, 34, 26);
        through(18, 2, 10);
        through(18, 36, 27);
        through(18, 4, 11);
        through(0, 7, 1, 2, 3, 4, 5, 6);
        through(47, 40, 46, 45, 44, 43, 42, 41);
        through(7, 47, 15, 23, 31, 39);
        through(40, 5, 33, 26, 19, 12);
        through(0, 47, 9, 10, 19, 28, 37, 38);
        through(47, 0, 9, 10, 19, 28, 37, 38);

        s.holds(Sentences.TERMS, "and told to the nearest whole number (a half: to the greater one), off that of the POST has no WALL.");
        through(18, 28, 27);
        through(18, 12, 19);
        through(18, 35, 27);
        through(18, 33, 26);
        through(18, 3, 11);
        through(18, 1, 10);
        through(18, 24, 25);
        through(18, 8, 17);
        through(16, 28, 17, 26, 27);
        through(16, 12, 17, 18, 11);
        through(16, 30, 17, 18, 27, 28, 29);
        through(0, 30, 9, 10, 19, 20, 29);
        through(24, 6, 25, 18, 19, 12, 13);
        RoomWatch x = with(STOOL, 18, 0);
        x.post(STOOL, 19, 0);
        s.is("a post does not stand between", 1, x.sees(0, 20));
        x.moves(1, 0);
        x.thief(19);
        s.is("nor the thief", 1, x.sees(0, 20));
    }

    // ---- together

    private void watchedAndBlind() {
        s.holds(Sentences.TERMS, "WATCHED: CELLS that any POST SEES (AWAKE or not).");
        RoomWatch x = new RoomWatch();
        s.is("nobody", 0, x.watched(0));
        x.post(LAMP, 0, 0);
        s.is("one", 21, x.watched(0));
        x.hours(1);
        s.is("one who is not awake", 21, x.watched(0));
        x.post(LAMP, 47, 0);
        s.is("two", 42, x.watched(0));
        x.post(DOOR, 1, 0);
        s.is("a third who sees nothing else", 42, x.watched(0));
        Due.text(x, "reach 12");
        s.is("all", 48, x.watched(0));

        s.holds(Sentences.TERMS, "BLIND: those without a WALL that none SEES.");
        RoomWatch y = new RoomWatch();
        s.is("all", 48, y.watched(1));
        y.wall(47, 1);
        s.is("but a wall", 47, y.watched(1));
        y.post(STOOL, 0, 0);
        s.is("but what is watched", 26, y.watched(1));
        Due.text(y, "reach 12");
        s.is("none", 0, y.watched(1));
    }

    private void spareAndFewest() {
        s.holds(Sentences.TERMS, "SPARE is a POST, if the others SEE all that it SEES.");
        RoomWatch x = with(STOOL, 0, 0, "reach 1");
        s.is("alone", 0, x.spare(0));
        x.post(STOOL, 1, 0);
        s.is("two who see each other", 0, x.spare(0));
        x.post(STOOL, 8, 0);
        s.is("all that the first one sees is seen", 1, x.spare(0));
        s.is("not all of the second one's", 0, x.spare(1));
        x.turns(1, LAMP);
        x.turns(2, LAMP);
        x.hours(1);
        s.is("by those who are not awake, too", 1, x.spare(0));
        x.moves(2, 16);
        s.is("one cell less: 8 is seen by 16", 1, x.spare(0));
        x.moves(2, 24);
        s.is("and now by none", 0, x.spare(0));

        s.holds(Sentences.TERMS, "FEWEST: the fewest POSTS that SEE, together, all that is WATCHED; of several such sets the least.");
        s.is("nobody", 0, new RoomWatch().fewest(0));
        s.is("one", 1, with(STOOL, 0, 0).fewest(0));
        RoomWatch eight = new RoomWatch();
        for (int k = 0; k < 8; k++) eight.post(STOOL, 6 * k, 0);
        Due.text(eight, "reach 0");
        s.is("all eight", 255, eight.fewest(0));
        s.is("eight", 8, eight.fewest(1));
        Due.text(eight, "reach 99");
        s.is("any of eight: the first", 1, eight.fewest(0));
        Due.text(eight, "reach (s=3)*99");
        eight.set(7, 2, 3);
        s.is("the last one sees all", 128, eight.fewest(0));
        s.is("one", 1, eight.fewest(1));
        RoomWatch sets = new RoomWatch();
        sets.post(SLIT, 5, 1);
        sets.post(SLIT, 2, 3);
        sets.post(SLIT, 3, 1);
        sets.post(SLIT, 4, 3);
        s.is("0 and 3, or 1 and 2, or 2 and 3: the least number", 6, sets.fewest(0));
        s.is("two", 2, sets.fewest(1));
        sets.post(SLIT, 0, 1);
        s.is("one of a greater number, not two of a lesser", 16, sets.fewest(0));
        RoomWatch half = with(SLIT, 41, 1);
        half.post(SLIT, 44, 1);
        s.is("all that is WATCHED, not all cells", 1, half.fewest(0));
        half.moves(0, 45);
        s.is("the other one", 2, half.fewest(0));
    }

    private void standAndSneak() {
        s.holds(Sentences.TERMS, "STAND of a KIND and a SIDE: the CELL that is nobody's and has no WALL in which such a POST, not TIRED, would SEE most that is not WATCHED; of several the least.");
        RoomWatch x = new RoomWatch();
        x.thief(20);
        Due.text(x, "reach 0");
        s.is("of 48 the least", 0, x.stand(STOOL, 0, 0));
        s.is("itself alone", 1, x.stand(STOOL, 0, 1));
        x.post(STOOL, 0, 0);
        s.is("nobody's", 1, x.stand(STOOL, 0, 0));
        x.wall(1, 1);
        s.is("without a wall", 2, x.stand(STOOL, 0, 0));
        int[][] slits = {{0, 42, 6}, {1, 8, 8}, {2, 2, 6}, {3, 15, 8}};
        for (int[] t : slits) {
            RoomWatch y = with(SLIT, 0, 0);
            y.wall(1, 1);
            s.is("a slit to " + t[0], t[1], y.stand(SLIT, t[0], 0));
            s.is("a slit to " + t[0] + " sees", t[2], y.stand(SLIT, t[0], 1));
        }
        RoomWatch tired = with(STOOL, 47, 0, "reach t");
        tired.set(0, 3, 12);
        s.is("it watches all", 48, tired.watched(0));
        s.is("not tired, and all is watched: nothing", 0, tired.stand(STOOL, 0, 1));
        tired.set(0, 3, 0);
        s.is("not tired: itself alone", 1, tired.stand(STOOL, 0, 1));
        Due.text(tired, "reach 2-t");
        s.is("not tired: two off", 13, tired.stand(STOOL, 0, 1));
        Due.text(tired, "reach s*99");
        s.is("by its side, none", 1, tired.stand(STOOL, 0, 1));
        s.is("by its side, all but the one that is watched", 47, tired.stand(STOOL, 1, 1));

        s.holds(Sentences.TERMS, "SNEAK from a CELL to another one: the fewest steps (to CELLS beside one another, by rows or columns) through BLIND ones alone, both being so.");
        RoomWatch y = new RoomWatch();
        s.is("one step", 1, y.sneak(0, 1));
        s.is("one step down", 1, y.sneak(0, 8));
        s.is("not aslant", 2, y.sneak(0, 9));
        s.is("not round the end of a row", 8, y.sneak(7, 8));
        s.is("nor from the last row to the first", 5, y.sneak(0, 40));
        s.is("from corner to corner", 12, y.sneak(0, 47));
        s.is("and the others", 12, y.sneak(7, 40));
    }

    // ---- promises

    private void sees() {
        s.holds(14, "Whether a POST SEES a CELL (1, 0).");
        RoomWatch x = with(WEDGE, 40, 0);
        s.is("its own", 1, x.sees(0, 40));
        sees("a wedge, ahead", x, 0, 47);
        x.moves(0, 47);
        s.is("the last cell", 1, x.sees(0, 47));
        s.is("the first cell", 0, x.sees(0, 0));
        s.quiet("sees", States.RICH, y -> y.sees(0, 17));

        s.holds(14, "BAD.");
        for (int wrong : Sentences.outside(0, 5)) s.refuses("post " + wrong, BAD, States.RICH, y -> y.sees(wrong, 0));
        for (int wrong : Sentences.outside(0, 47)) s.refuses("cell " + wrong, BAD, States.RICH, y -> y.sees(0, wrong));
        s.refuses("no post at all", BAD, States.BARE, y -> y.sees(0, 0));
        s.refuses("the ninth", BAD, States.PACKED, y -> y.sees(8, 0));
    }

    private void row() {
        s.holds(15, "CELLS of a row (0 .. 5) that a POST SEES, by columns, as a set.");
        RoomWatch x = with(STOOL, 0, 0, "reach 0");
        s.is("the first column", 1, x.row(0, 0));
        s.is("none", 0, x.row(0, 5));
        x.moves(0, 47);
        s.is("the last column", 128, x.row(0, 5));
        s.is("none in the first", 0, x.row(0, 0));
        Due.text(x, "reach 99");
        for (int row = 0; row < 6; row++) s.is("all", 255, x.row(0, row));
        s.quiet("row", States.RICH, y -> y.row(5, 5));

        s.holds(15, "BAD.");
        for (int wrong : Sentences.outside(0, 5)) {
            s.refuses("post " + wrong, BAD, States.RICH, y -> y.row(wrong, 0));
            s.refuses("row " + wrong, BAD, States.RICH, y -> y.row(0, wrong));
        }
        s.refuses("no post at all", BAD, States.BARE, y -> y.row(0, 0));
        s.refuses("the ninth", BAD, States.PACKED, y -> y.row(8, 0));
    }

    private void watched() {
        s.holds(16, "What is 0 how many CELLS are WATCHED, 1 how many are BLIND, 2 the first BLIND one (NONE), 3 how many those who are AWAKE SEE, together.");
        RoomWatch x = new RoomWatch();
        int[] nobody = {0, 48, 0, 0};
        for (int what = 0; what < 4; what++) s.is("nobody, " + what, nobody[what], x.watched(what));
        x.post(STOOL, 0, 0);
        Due.text(x, "reach 11");
        int[] last = {47, 1, 47, 47};
        for (int what = 0; what < 4; what++) s.is("all but the last, " + what, last[what], x.watched(what));
        x.wall(47, 1);
        int[] walled = {47, 0, NONE, 47};
        for (int what = 0; what < 4; what++) s.is("that has a wall, " + what, walled[what], x.watched(what));
        x.turns(0, LAMP);
        x.hours(1);
        int[] out = {47, 0, NONE, 0};
        for (int what = 0; what < 4; what++) s.is("by a lamp that is out, " + what, out[what], x.watched(what));
        x.wall(47, 0);
        x.post(DOZER, 47, 0);
        x.set(1, 3, 49);
        s.is("a dozer of 49 sees all but one", 47, x.watched(3));
        Due.text(x, "reach 5");
        x.turns(0, STOOL);
        s.is("two who are awake see, together", 42, x.watched(3));
        Due.text(x, "reach 0");
        s.is("each itself alone", 2, x.watched(3));
        Due.text(x, "reach 11");
        x.turns(0, LAMP);
        x.set(1, 3, 50);
        s.is("a dozer of 50 does not count", 0, x.watched(3));
        s.is("but watches", 48, x.watched(0));
        for (int what = 0; what < 4; what++) {
            int told = what;
            s.quiet("watched " + what, States.RICH, y -> y.watched(told));
        }

        s.holds(16, "BAD.");
        for (int wrong : Sentences.outside(0, 3)) {
            s.refuses("what " + wrong, BAD, States.RICH, y -> y.watched(wrong));
            s.refuses("what " + wrong + ", nobody", BAD, States.BARE, y -> y.watched(wrong));
        }
    }

    private void spare() {
        s.holds(17, "Whether a POST is SPARE (1, 0).");
        RoomWatch x = new RoomWatch();
        for (int k = 0; k < 8; k++) x.post(STOOL, k, 0);
        Due.text(x, "reach 0");
        for (int k = 0; k < 8; k++) s.is("each sees its own alone, " + k, 0, x.spare(k));
        Due.text(x, "reach 99");
        for (int k = 0; k < 8; k++) s.is("all see all, " + k, 1, x.spare(k));
        Due.text(x, "reach (s=1)*99");
        x.set(7, 2, 1);
        for (int k = 0; k < 8; k++) s.is("the last one sees all, " + k, k < 7 ? 1 : 0, x.spare(k));
        x.set(7, 2, 0);
        x.set(0, 2, 1);
        for (int k = 0; k < 8; k++) s.is("the first one sees all, " + k, k > 0 ? 1 : 0, x.spare(k));
        s.quiet("spare", States.RICH, y -> y.spare(1));

        s.holds(17, "BAD.");
        for (int wrong : Sentences.outside(0, 5)) s.refuses("post " + wrong, BAD, States.RICH, y -> y.spare(wrong));
        s.refuses("no post at all", BAD, States.BARE, y -> y.spare(0));
        s.refuses("the ninth", BAD, States.PACKED, y -> y.spare(8));
    }

    private void fewest() {
        s.holds(18, "FEWEST: what 0 the POSTS, as a set, 1 how many.");
        RoomWatch x = new RoomWatch();
        s.is("nobody", 0, x.fewest(0));
        s.is("none", 0, x.fewest(1));
        Due.text(x, "reach 0");
        for (int k = 0; k < 8; k++) {
            x.post(STOOL, 6 * k, 0);
            s.is("all of " + k, (1 << k + 1) - 1, x.fewest(0));
            s.is("so many of " + k, k + 1, x.fewest(1));
        }
        s.quiet("the posts", States.PACKED, y -> y.fewest(0));
        s.quiet("how many", States.RICH, y -> y.fewest(1));

        s.holds(18, "BAD.");
        for (int wrong : Sentences.outside(0, 1)) {
            s.refuses("what " + wrong, BAD, States.RICH, y -> y.fewest(wrong));
            s.refuses("what " + wrong + ", nobody", BAD, States.BARE, y -> y.fewest(wrong));
        }
    }

    private void stand() {
        s.holds(19, "STAND: what 0 the CELL, 1 how many it would SEE that are not WATCHED.");
        RoomWatch x = new RoomWatch();
        x.thief(47);
        for (int cell = 0; cell < 47; cell++) x.wall(cell, 1);
        s.is("the last cell alone", 47, x.stand(STOOL, 0, 0));
        s.is("and it would see", 1, x.stand(STOOL, 0, 1));
        RoomWatch y = with(STOOL, 47, 0, "reach 99");
        s.is("nothing more to see: the least", 0, y.stand(STOOL, 0, 0));
        s.is("nothing", 0, y.stand(STOOL, 0, 1));
        s.is("a new room, all", 48, stands("reach 12", STOOL, 0, 1));
        s.is("a new room, all, from the first", 0, stands("reach 12", STOOL, 0, 0));
        s.is("a slit up, from the last row", 40, stands("reach 1", SLIT, 0, 0));
        s.is("a wedge up that reaches 2", 5, stands("reach 0", WEDGE, 0, 1));
        s.is("a wedge up, in the least cell of such", 17, stands("reach 0", WEDGE, 0, 0));
        s.is("a door", 13, stands("reach 99", DOOR, 3, 1));
        s.is("a door, in the least cell of such", 18, stands("reach 99", DOOR, 3, 0));
        for (int what = 0; what < 2; what++) {
            int told = what;
            s.quiet("stand " + what, States.RICH, z -> z.stand(3, 1, told));
        }

        s.holds(19, "BAD;");
        for (States.Run state : new States.Run[] {States.RICH, States.PACKED}) {
            for (int wrong : Sentences.outside(0, 5)) s.refuses("kind " + wrong, BAD, state, z -> z.stand(wrong, 0, 0));
            for (int wrong : Sentences.outside(0, 3)) s.refuses("side " + wrong, BAD, state, z -> z.stand(0, wrong, 0));
            for (int wrong : Sentences.outside(0, 1)) s.refuses("what " + wrong, BAD, state, z -> z.stand(0, 0, wrong));
        }
        s.is("all the most", 1, stands("reach 0", DOZER, 3, 1));

        s.holds(19, "FULL;");
        s.refuses("eight posts", FULL, States.PACKED, z -> z.stand(0, 0, 0));
        s.refuses("eight posts, how many", FULL, States.PACKED, z -> z.stand(0, 0, 1));
        RoomWatch crowd = new RoomWatch();
        for (int k = 0; k < 7; k++) crowd.post(STOOL, k, 0);
        for (int cell = 8; cell < 48; cell++) crowd.wall(cell, 1);
        s.is("room for an eighth", 7, crowd.stand(STOOL, 0, 0));
        crowd.post(STOOL, 7, 0);
        s.is("ahead of NONE", FULL, crowd.stand(STOOL, 0, 0));

        s.holds(19, "NONE: there is no such CELL.");
        States.Run shut = z -> {
            z.post(STOOL, 0, 0);
            for (int cell = 1; cell < 48; cell++) z.wall(cell, 1);
        };
        s.refuses("walls and a post", NONE, shut, z -> z.stand(0, 0, 0));
        s.refuses("how many", NONE, shut, z -> z.stand(0, 0, 1));
        s.refuses("BAD ahead of NONE", BAD, shut, z -> z.stand(0, 0, 2));
    }

    private static int stands(String law, int kind, int side, int what) {
        RoomWatch x = new RoomWatch();
        Due.text(x, law);
        return x.stand(kind, side, what);
    }

    private void sneak() {
        s.holds(20, "SNEAK.");
        RoomWatch x = new RoomWatch();
        for (int cell = 0; cell < 48; cell++) {
            int row = cell / 8, column = cell % 8;
            boolean open = column % 2 == 0 || column == 7 && row == 0
                || (column == 1 || column == 5) && row == 5 || column == 3 && row == 0;
            if (!open) x.wall(cell, 1);
        }
        s.is("the long way, down and up", 27, x.sneak(0, 7));
        s.is("and back", 27, x.sneak(7, 0));
        s.is("nowhere", 0, x.sneak(0, 0));
        s.is("one step less", 26, x.sneak(0, 6));
        s.is("beside it, but for the wall", 12, x.sneak(0, 2));
        s.quiet("sneak", States.RICH, y -> y.sneak(2, 45));

        s.holds(20, "BAD;");
        for (States.Run state : new States.Run[] {States.BARE, States.RICH}) {
            for (int wrong : Sentences.outside(0, 47)) {
                s.refuses("from " + wrong, BAD, state, y -> y.sneak(wrong, 0));
                s.refuses("to " + wrong, BAD, state, y -> y.sneak(0, wrong));
                s.refuses("from and to " + wrong, BAD, state, y -> y.sneak(wrong, wrong));
            }
        }

        s.holds(20, "NONE: there is no way.");
        s.is("to a wall", NONE, x.sneak(0, 1));
        s.is("from a wall", NONE, x.sneak(1, 0));
        s.is("in a wall", NONE, x.sneak(1, 1));
        x.wall(41, 1);
        s.is("shut off", NONE, x.sneak(0, 2));
        s.is("still within", 5, x.sneak(0, 40));
        RoomWatch y = with(SLIT, 3, 2, "reach 5");
        s.is("past a watched column", NONE, y.sneak(0, 7));
        s.is("to a watched one", NONE, y.sneak(2, 3));
        s.is("from a watched one", NONE, y.sneak(3, 2));
        s.is("in a watched one", NONE, y.sneak(43, 43));
        s.is("before it", 5, y.sneak(2, 42));
        y.moves(0, 11);
        s.is("past it, by the first row", 7, y.sneak(0, 7));
        s.refuses("it changes nothing", NONE, States.RICH, z -> z.sneak(10, 10));
    }
}
