/** Each promise of the document by itself: ordinary inputs, the edges that it names, wrong inputs. */
public final class PromiseTest {
    private static final int BAD = -1000000001, NO = -1000000002, FULL = -1000000003, NONE = -1000000005,
        NOTHING = -1000000011, KIND = -1000000012, INDEX = -1000000013, SIZE = -1000000014;
    private static final int MIN = Integer.MIN_VALUE, MAX = Integer.MAX_VALUE;
    private static final int STOOL = 0, WEDGE = 1, LAMP = 2, SLIT = 3, DOOR = 4, DOZER = 5;

    private static final Due DUE = new Due("PromiseTest");

    public static void main(String[] args) {
        aNewObject();
        posts();
        kinds();
        setting();
        places();
        rulesAndLots();
        sight();
        betweenThem();
        watching();
        standing();
        sneaking();
        hours();
        tiring();
        lastHour();
        behind();
        catching();
        facing();
        becoming();
        likeness();
        laws();
        tape();
        texts();
        faults();
        worth();
        textsTold();
        sheets();
        marks();
        pouring();
        copies();
        slots();
        waiting();
        checks();
        images();
        counts();
        DUE.end();
    }

    private static void is(String call, long want, long got) {
        DUE.is(call, want, got);
    }

    private static RoomWatch with(int kind, int cell, int side) {
        RoomWatch x = new RoomWatch();
        is("post", 0, x.post(kind, cell, side));
        return x;
    }

    /** A TEXT that a test builds on: it must have been taken. */
    private static void law(RoomWatch x, String text) {
        int texts = x.count(4);
        is("32 '" + text + "'", texts, Due.text(x, text));
    }

    /** THE THIEF cannot leave the last cell; a post in 38 looks at it past the walls' corner. */
    private static RoomWatch boxed(int kind, int side) {
        RoomWatch x = with(kind, 38, side);
        x.thief(47);
        x.wall(46, 1);
        x.wall(39, 1);
        x.rule(0, 0);
        x.rule(1, 0);
        return x;
    }

    // ---- 1
    private static void aNewObject() {
        RoomWatch x = new RoomWatch();
        int[] counts = {0, 0, 20, 30, 0, 0, 0, 1};
        for (int k = 0; k < 8; k++) is("1 count " + k, counts[k], x.count(k));
        for (int k = 0; k < 6; k++) is("1 room " + k, 0, x.room(k));
        for (int c = 0; c < 48; c++) {
            is("1 at " + c, NONE, x.at(c, 0));
            is("1 wall at " + c, 0, x.at(c, 1));
        }
        for (int k = 0; k < 3; k++) is("1 why " + k, NONE, x.why(k));
        for (int k = 0; k < 4; k++) is("1 sheet " + k, NOTHING, x.reads(k));
        for (int k = 0; k < 5; k++) is("1 slot " + k, NOTHING, x.item(k, 0));
        is("1 back", NO, x.back());
        is("1 fee", 0, x.fee());
    }

    // ---- 2, 3
    private static void posts() {
        RoomWatch x = new RoomWatch();
        for (int wrong : new int[] {-1, 6, MIN, MAX}) is("2 kind", BAD, x.post(wrong, 0, 0));
        for (int wrong : new int[] {-1, 48, MIN, MAX}) is("2 cell", BAD, x.post(0, wrong, 0));
        for (int wrong : new int[] {-1, 4, MIN, MAX}) is("2 side", BAD, x.post(0, 0, wrong));
        x.wall(20, 1);
        is("2 where the thief is", 0, x.post(DOZER, 0, 3));
        is("2 somebody's", NO, x.post(0, 0, 0));
        is("2 a wall", NO, x.post(0, 20, 0));
        for (int k = 1; k < 8; k++) is("2 post", k, x.post(0, 40 + k, 0));
        is("2 the ninth", FULL, x.post(0, 1, 0));
        is("2 NO stands first", NO, x.post(0, 20, 0));
        is("2 BAD stands first", BAD, x.post(6, 20, 0));
        is("2 count", 8, x.count(0));
        is("3 kind", DOZER, x.told(0, 0));
        is("3 cell", 47, x.told(7, 1));
        is("3 side", 3, x.told(0, 2));
        is("3 tired", 0, x.told(0, 3));
        for (int wrong : new int[] {-1, 8, MIN, MAX}) {
            is("3 post", BAD, x.told(wrong, 0));
            is("3 what", BAD, x.told(0, wrong));
        }
    }

    // ---- 3, 4, 5
    private static void kinds() {
        RoomWatch x = new RoomWatch();
        int[] reaches = {5, 7, 5, 14, 5, 5};
        int[] worth = {10, 14, 89, 28, 83, 3};
        for (int kind = 0; kind < 6; kind++) {
            x.post(kind, 8 * kind, 1);
            x.set(kind, 3, 10);
            is("3 reaches " + kind, reaches[kind], x.told(kind, 5));
            is("3 worth " + kind, worth[kind], x.told(kind, 7));
            is("3 awake " + kind, 1, x.told(kind, 4));
        }
        x.set(DOOR, 3, 99);
        is("3 worth below 0", -6, x.told(DOOR, 7));
        x.set(DOZER, 3, 49);
        is("3 a dozer of 49", 1, x.told(DOZER, 4));
        x.set(DOZER, 3, 50);
        is("3 a dozer of 50", 0, x.told(DOZER, 4));
        int[][] awake = {{1, 1}, {0, 0}, {1, 1}, {0, 1}, {1, 1}, {0, 0}, {1, 1}, {0, 0}, {1, 1}, {0, 1}};
        for (int hour = 0; hour < 10; hour++) {
            is("3 lamp in hour " + hour, awake[hour][0], x.told(LAMP, 4));
            is("3 door in hour " + hour, awake[hour][1], x.told(DOOR, 4));
            is("3 slit in hour " + hour, 1, x.told(SLIT, 4));
            x.hours(1);
        }
        String[] under = {"012345", "13", "24", "3", "4", "5"};
        for (int p = 0; p < 6; p++) {
            for (int kind = 0; kind < 6; kind++) {
                boolean is = under[kind].indexOf('0' + p) >= 0;
                is("4 as " + p + " " + kind, is ? 8 * p : KIND, x.as(p, kind));
            }
        }
        for (int wrong : new int[] {-1, 6, MIN, MAX}) {
            is("4 post", BAD, x.as(wrong, 0));
            is("4 kind", BAD, x.as(0, wrong));
            is("5 post", BAD, x.turns(wrong, 0));
            is("5 kind", BAD, x.turns(0, wrong));
        }
        is("5 turns", STOOL, x.turns(0, SLIT));
        is("5 turns again", SLIT, x.turns(0, SLIT));
        is("5 is it", SLIT, x.told(0, 0));
        is("5 as a wedge", 0, x.as(0, WEDGE));
    }

    // ---- 6
    private static void setting() {
        RoomWatch x = with(STOOL, 5, 2);
        is("6 side", 2, x.set(0, 2, 3));
        is("6 tired", 0, x.set(0, 3, 99));
        is("6 tired again", 99, x.set(0, 3, 0));
        is("6 side is", 3, x.told(0, 2));
        for (int wrong : new int[] {0, 1, 4, -1, MIN, MAX}) is("6 what", BAD, x.set(0, wrong, 1));
        for (int wrong : new int[] {-1, 4, MIN, MAX}) is("6 v of side", BAD, x.set(0, 2, wrong));
        for (int wrong : new int[] {-1, 100, MIN, MAX}) is("6 v of tired", BAD, x.set(0, 3, wrong));
        for (int wrong : new int[] {-1, 1, MIN, MAX}) is("6 post", BAD, x.set(wrong, 2, 1));
        is("6 stays", 3, x.told(0, 2));
    }

    // ---- 7, 8, 9, 10
    private static void places() {
        RoomWatch x = with(STOOL, 5, 0);
        x.post(STOOL, 6, 0);
        is("8 wall", 0, x.wall(7, 1));
        is("7 moves", 5, x.moves(0, 8));
        is("7 it has moved", 8, x.told(0, 1));
        is("7 where it was", NONE, x.at(5, 0));
        is("7 somebody's", NO, x.moves(0, 6));
        is("7 its own", NO, x.moves(0, 8));
        is("7 a wall", NO, x.moves(0, 7));
        for (int wrong : new int[] {-1, 2, MIN, MAX}) is("7 post", BAD, x.moves(wrong, 1));
        for (int wrong : new int[] {-1, 48, MIN, MAX}) {
            is("7 cell", BAD, x.moves(0, wrong));
            is("8 cell", BAD, x.wall(wrong, 0));
            is("9 cell", BAD, x.at(wrong, 0));
            is("10 cell", BAD, x.thief(wrong));
        }
        for (int wrong : new int[] {-1, 2, MIN, MAX}) {
            is("8 is", BAD, x.wall(1, wrong));
            is("9 what", BAD, x.at(1, wrong));
        }
        is("8 somebody's", NO, x.wall(8, 1));
        is("8 none there", 0, x.wall(8, 0));
        is("8 the thief", NO, x.wall(0, 1));
        is("8 again", 1, x.wall(7, 1));
        is("9 a wall", 1, x.at(7, 1));
        is("9 a wall is nobody's", NONE, x.at(7, 0));
        is("9 whose", 1, x.at(6, 0));
        is("22 walls", 1, x.room(5));
        is("10 a wall", NO, x.thief(7));
        is("8 away", 1, x.wall(7, 0));
        is("9 away", 0, x.at(7, 1));
        is("10 thief", 0, x.thief(7));
        is("10 where a post is", 7, x.thief(8));
        is("10 is there", 8, x.room(2));
        is("8 the thief has gone", 0, x.wall(0, 1));
    }

    // ---- 11, 12, 13
    private static void rulesAndLots() {
        RoomWatch x = new RoomWatch();
        is("11 stealth", 20, x.rule(0, 100));
        is("11 tires", 30, x.rule(1, 0));
        is("11 stealth again", 100, x.rule(0, 0));
        for (int wrong : new int[] {-1, 101, MIN, MAX}) is("11 v", BAD, x.rule(0, wrong));
        for (int wrong : new int[] {-1, 2, MIN, MAX}) is("11 what", BAD, x.rule(wrong, 1));
        is("11 stays", 0, x.count(2));
        for (int wrong : new int[] {-1, 0, 9, MIN, MAX}) is("12 n", BAD, x.deal(wrong));
        is("13 seed", 1, x.seed(-77));
        Lot lot = new Lot(-77);
        is("12 deal", 3, x.deal(3));
        for (int k = 0; k < 3; k++) {
            is("12 kind", lot.draw() % 6, x.told(k, 0));
            is("12 cell", lot.draw() % 48, x.told(k, 1));
            is("12 side", lot.draw() % 4, x.told(k, 2));
            is("12 tired", lot.draw() % 60, x.told(k, 3));
        }
        is("13 z", lot.z(), x.seed(5));
        is("12 room for five", 5, x.deal(8));
        int z = x.count(7);
        is("12 full", 0, x.deal(1));
        is("12 no draws for others", z, x.count(7));

        RoomWatch y = new RoomWatch();
        int seed = seedForCell(47);
        y.thief(20);
        y.wall(47, 1);
        y.wall(0, 1);
        y.seed(seed);
        is("12 round", 1, y.deal(1));
        is("12 the next one", 1, y.told(0, 1));

        RoomWatch w = new RoomWatch();
        for (int c = 1; c < 48; c++) w.wall(c, 1);
        Lot eight = new Lot(1);
        for (int k = 0; k < 8; k++) eight.draw();
        is("12 one cell alone", 1, w.deal(5));
        is("12 in it", 0, w.told(0, 1));
        is("12 all four are drawn, then no more", eight.z(), w.count(7));
    }

    private static int seedForCell(int cell) {
        for (int seed = 0; seed < 100000; seed++) {
            Lot lot = new Lot(seed);
            lot.draw();
            if (lot.draw() % 48 == cell) return seed;
        }
        return 0;
    }

    // ---- 14, 15, 3
    private static void sight() {
        RoomWatch x = with(STOOL, 0, 1);
        int[] stool = {63, 31, 15, 7, 3, 1};
        int[] wedge = {255, 126, 60, 24, 0, 0};
        int[] door = {7, 3, 1, 0, 0, 0};
        int[] slit = {255, 0, 0, 0, 0, 0};
        rows(x, STOOL, stool, 21);
        rows(x, WEDGE, wedge, 20);
        rows(x, LAMP, stool, 21);
        rows(x, DOOR, door, 6);
        rows(x, DOZER, stool, 21);
        rows(x, SLIT, slit, 8);
        x.set(0, 2, 2);
        rows(x, SLIT, new int[] {1, 1, 1, 1, 1, 1}, 6);
        x.set(0, 2, 0);
        rows(x, SLIT, new int[] {1, 0, 0, 0, 0, 0}, 1);
        rows(x, WEDGE, new int[] {1, 0, 0, 0, 0, 0}, 1);
        x.moves(0, 28);
        rows(x, WEDGE, new int[] {254, 124, 56, 16, 0, 0}, 16);
        x.set(0, 2, 3);
        rows(x, WEDGE, new int[] {3, 7, 15, 31, 15, 7}, 21);
        x.set(0, 2, 2);
        rows(x, WEDGE, new int[] {0, 0, 0, 16, 56, 124}, 9);
        x.set(0, 2, 1);
        rows(x, SLIT, new int[] {0, 0, 0, 240, 0, 0}, 4);
        is("14 its own cell", 1, x.sees(0, 28));
        is("14 ahead", 1, x.sees(0, 31));
        is("14 behind its back", 0, x.sees(0, 27));
        for (int wrong : new int[] {-1, 1, MIN, MAX}) {
            is("14 post", BAD, x.sees(wrong, 0));
            is("15 post", BAD, x.row(wrong, 0));
        }
        for (int wrong : new int[] {-1, 48, MIN, MAX}) is("14 cell", BAD, x.sees(0, wrong));
        for (int wrong : new int[] {-1, 6, MIN, MAX}) is("15 row", BAD, x.row(0, wrong));
    }

    private static void rows(RoomWatch x, int kind, int[] rows, int many) {
        x.turns(0, kind);
        for (int row = 0; row < 6; row++) is("15 kind " + kind + " row " + row, rows[row], x.row(0, row));
        is("3 cells of kind " + kind, many, x.told(0, 6));
    }

    /** Halves go to the greater number, on either side of 0; told in rows and columns from cell 18. */
    private static void betweenThem() {
        int[][] throughs = {{28, 27}, {12, 19}, {35, 27}, {33, 26}, {3, 11}, {1, 10}, {24, 25}, {8, 17}};
        for (int[] t : throughs) {
            for (int wall = 0; wall < 48; wall++) {
                if (wall == 18 || wall == t[0]) continue;
                RoomWatch x = with(STOOL, 18, 0);
                x.thief(18);
                x.wall(wall, 1);
                is("14 from 18 to " + t[0] + " past " + wall, wall == t[1] ? 0 : 1, x.sees(0, t[0]));
            }
        }
        RoomWatch x = with(STOOL, 18, 0);
        x.post(STOOL, 19, 0);
        is("14 a post does not hide", 1, x.sees(0, 20));
        x.wall(20, 1);
        is("14 a wall is not seen", 0, x.sees(0, 20));
        is("14 nor what is beyond", 0, x.sees(0, 21));
    }

    // ---- 16, 17, 18
    private static void watching() {
        RoomWatch x = new RoomWatch();
        is("18 nobody", 0, x.fewest(0));
        is("18 none", 0, x.fewest(1));
        is("16 blind first", 0, x.watched(2));
        x.post(STOOL, 0, 0);
        x.wall(47, 1);
        is("16 watched", 21, x.watched(0));
        is("16 blind", 26, x.watched(1));
        is("16 first blind", 6, x.watched(2));
        is("16 by the awake", 21, x.watched(3));
        is("17 alone", 0, x.spare(0));
        x.turns(0, LAMP);
        x.hours(1);
        is("16 watched by sleepers", 21, x.watched(0));
        is("16 by the awake, none", 0, x.watched(3));
        for (int wrong : new int[] {-1, 4, MIN, MAX}) is("16 what", BAD, x.watched(wrong));
        for (int wrong : new int[] {-1, 1, MIN, MAX}) is("17 post", BAD, x.spare(wrong));
        for (int wrong : new int[] {-1, 2, MIN, MAX}) is("18 what", BAD, x.fewest(wrong));

        RoomWatch y = with(DOOR, 0, 0);
        y.post(STOOL, 10, 0);
        y.post(STOOL, 20, 0);
        law(y, "reach 99");
        is("16 nothing is blind", NONE, y.watched(2));
        is("17 a door", 1, y.spare(0));
        is("17 one of two", 1, y.spare(1));
        is("18 the least set", 2, y.fewest(0));
        is("18 one", 1, y.fewest(1));
        law(y, "reach 0");
        is("17 each for itself", 0, y.spare(1));
        is("17 the first cell, too", 0, y.spare(0));
        is("18 all", 7, y.fewest(0));
        is("18 three", 3, y.fewest(1));
        y.turns(2, WEDGE);
        y.moves(2, 2);
        y.set(2, 2, 3);
        is("18 the wedge sees the door's cell", 6, y.fewest(0));
        is("18 two", 2, y.fewest(1));
        y.moves(1, 1);
        is("18 the wedge alone", 4, y.fewest(0));
    }

    // ---- 19
    private static void standing() {
        RoomWatch x = new RoomWatch();
        is("19 the middle", 19, x.stand(STOOL, 0, 0));
        is("19 sees most", 43, x.stand(STOOL, 0, 1));
        is("19 a slit", 0, x.stand(SLIT, 1, 0));
        is("19 a slit's row", 8, x.stand(SLIT, 1, 1));
        is("19 a slit that looks up", 40, x.stand(SLIT, 0, 0));
        law(x, "reach t + s * 2");
        is("19 not tired, by its side", 13, x.stand(STOOL, 1, 1));
        is("19 not tired, no side", 1, x.stand(STOOL, 0, 1));
        for (int wrong : new int[] {-1, 6, MIN, MAX}) is("19 kind", BAD, x.stand(wrong, 0, 0));
        for (int wrong : new int[] {-1, 4, MIN, MAX}) is("19 side", BAD, x.stand(0, wrong, 0));
        for (int wrong : new int[] {-1, 2, MIN, MAX}) is("19 what", BAD, x.stand(0, 0, wrong));
        law(x, "reach 99");
        x.post(STOOL, 0, 0);
        is("19 nothing more to see", 1, x.stand(STOOL, 0, 0));
        is("19 nothing", 0, x.stand(STOOL, 0, 1));
        is("19 only thought", 1, x.count(0));
        for (int c = 1; c < 48; c++) x.wall(c, 1);
        is("19 no cell", NONE, x.stand(STOOL, 0, 0));
        is("19 no cell, how many", NONE, x.stand(STOOL, 0, 1));
        RoomWatch y = new RoomWatch();
        y.deal(8);
        is("19 full", FULL, y.stand(STOOL, 0, 0));
        is("19 BAD stands first", BAD, y.stand(STOOL, 0, 2));
    }

    // ---- 20
    private static void sneaking() {
        RoomWatch x = new RoomWatch();
        is("20 across", 12, x.sneak(0, 47));
        is("20 nowhere", 0, x.sneak(9, 9));
        is("20 not round the edge", 8, x.sneak(7, 8));
        is("20 not round the edge back", 8, x.sneak(8, 7));
        for (int c = 1; c < 40; c += 8) x.wall(c, 1);
        is("20 round the walls", 12, x.sneak(0, 2));
        is("20 a wall is not blind", NONE, x.sneak(1, 1));
        x.wall(41, 1);
        is("20 shut in", NONE, x.sneak(0, 2));
        is("20 within", 5, x.sneak(40, 0));
        x.post(SLIT, 4, 2);
        is("20 watched column", NONE, x.sneak(2, 7));
        is("20 beside it", 5, x.sneak(3, 43));
        is("20 from a watched one", NONE, x.sneak(4, 3));
        is("20 to a watched one", NONE, x.sneak(3, 4));
        is("20 in a watched one", NONE, x.sneak(4, 4));
        for (int wrong : new int[] {-1, 48, MIN, MAX}) {
            is("20 from", BAD, x.sneak(wrong, 0));
            is("20 to", BAD, x.sneak(0, wrong));
        }
    }

    // ---- 21, 22
    private static void hours() {
        RoomWatch x = new RoomWatch();
        for (int wrong : new int[] {-1, 0, 101, MIN, MAX}) is("21 n", BAD, x.hours(wrong));
        x.seed(99);
        x.thief(19);
        x.wall(20, 1);
        Lot lot = new Lot(99);
        int row = 2, column = 3;
        for (int k = 0; k < 60; k++) {
            int side = lot.draw() % 4;
            int r = side == 0 ? row - 1 : side == 2 ? row + 1 : row;
            int c = side == 1 ? column + 1 : side == 3 ? column - 1 : column;
            boolean goes = r >= 0 && r < 6 && c >= 0 && c < 8 && !(r == 2 && c == 4);
            row = goes ? r : row;
            column = goes ? c : column;
            lot.draw();
            lot.draw();
            is("21 nobody catches", 0, x.hours(1));
            is("22 thief in hour " + k, row * 8 + column, x.room(2));
            is("2 three draws without posts", lot.z(), x.count(7));
        }
        is("22 unseen", 60, x.room(1));
        is("48 hour", 60, x.count(1));
        for (int wrong : new int[] {-1, 6, MIN, MAX}) is("22 what", BAD, x.room(wrong));

        RoomWatch y = boxed(STOOL, 0);
        is("21 caught each hour", 7, y.hours(7));
        is("22 caught", 7, y.room(0));
        y.rule(0, 100);
        is("21 stealth of 100", 0, y.hours(7));
        is("22 unseen, too", 7, y.room(1));
        y.rule(0, 50);
        y.seed(3);
        Lot stealth = new Lot(3);
        int caught = 0;
        for (int k = 0; k < 40; k++) {
            stealth.draw();
            caught += stealth.draw() % 100 < 50 ? 0 : 1;
            stealth.draw();
        }
        is("21 by the second draw", caught, y.hours(40));
        is("22 walls", 2, y.room(5));

        RoomWatch t = new RoomWatch();
        for (int k = 0; k < 3; k++) t.post(STOOL, 10 + k, k + 1);
        t.rule(1, 40);
        int[] sides = {1, 2, 3};
        Lot turn = new Lot(1);
        for (int k = 0; k < 50; k++) {
            turn.draw();
            turn.draw();
            if (turn.draw() % 100 < 40) {
                int p = turn.draw() % 3;
                sides[p] = (sides[p] + 1) % 4;
            }
        }
        t.hours(50);
        for (int k = 0; k < 3; k++) is("2 side of " + k, sides[k], t.told(k, 2));
        is("2 draws", turn.z(), t.count(7));

        for (int tires = 0; tires < 100; tires++) {
            RoomWatch one = with(STOOL, 9, 3);
            Lot lots = new Lot(1);
            lots.draw();
            lots.draw();
            boolean turns = lots.draw() % 100 < tires;
            if (turns) lots.draw();
            one.rule(1, tires);
            one.hours(1);
            is("2 below " + tires, turns ? 0 : 3, one.told(0, 2));
            is("2 one more draw below " + tires, lots.z(), one.count(7));
        }
    }

    private static void tiring() {
        RoomWatch x = new RoomWatch();
        for (int kind = 0; kind < 6; kind++) x.post(kind, kind, 0);
        x.set(DOZER, 3, 45);
        int[][] tired = {{5, 5, 5, 5, 5, 50}, {10, 10, 0, 10, 0, 30}, {15, 15, 5, 15, 5, 35}, {20, 20, 0, 20, 10, 40},
            {25, 25, 5, 25, 15, 45}, {30, 30, 0, 30, 0, 50}};
        for (int hour = 0; hour < tired.length; hour++) {
            x.hours(1);
            int all = 0;
            for (int p = 0; p < 6; p++) {
                is("2 tired of " + p + " behind " + hour, tired[hour][p], x.told(p, 3));
                all += tired[hour][p];
            }
            is("22 of all", all, x.room(4));
        }
        is("22 awake, as a set", 1 + 2 + 4 + 8 + 16, x.room(3));
        x.hours(1);
        is("22 awake in hour 7", 1 + 2 + 8 + 32, x.room(3));
        x.set(0, 3, 97);
        x.hours(1);
        is("2 99 at most", 99, x.told(0, 3));
    }

    private static void lastHour() {
        RoomWatch x = with(LAMP, 20, 0);
        for (int k = 0; k < 99; k++) x.hours(100);
        is("21 before the last", 9900, x.count(1));
        x.hours(98);
        x.keep();
        is("21 the last one", 9998, x.count(1));
        x.hours(100);
        is("2 9999 at most", 9999, x.count(1));
        is("2 so many in all", 9999, x.room(0) + x.room(1));
        int z = x.count(7);
        is("21 no more", 0, x.hours(1));
        is("21 no draws then", z, x.count(7));
        is("21 BAD even then", BAD, x.hours(0));
        is("23 thought goes on", 9999 + 7, x.behind(7, 0) + x.behind(7, 1));
        x.set(0, 3, 50);
        is("23 awake in hour 10000", 35, x.behind(2, 5));
        is("23 in hour 9999 it is not", 30, x.behind(1, 5));
        law(x, "reach (h > 9999 + 1) * 50");
        x.rule(0, 0);
        x.thief(0);
        is("24 by a law of thought hours", 4, x.catches());

        x.back();
        is("47 back to 9998", 9998, x.count(1));
        int caught = x.behind(1, 0), all = x.behind(1, 4);
        x.tell(caught);
        x.tell(all);
        is("45 fewer hours", 0, x.check(30));
        x.tell(caught);
        x.tell(all);
        x.tell(0);
        is("45 one too many", 3, x.check(30));
        x.hours(1);
        x.keep();
        is("45 no hours", 0, x.check(1));
        x.tell(0);
        is("45 none is due", 1, x.check(1));
    }

    // ---- 23
    private static void behind() {
        RoomWatch x = new RoomWatch();
        x.seed(12345);
        x.deal(5);
        x.wall(x.room(2) == 3 ? 4 : 3, 1);
        int[] due = new int[10];
        for (int what = 0; what < 10; what++) {
            due[what] = x.behind(37, what);
            is("23 behind none", what < 5 ? x.room(what) : x.told(what - 5, 3), x.behind(0, what));
        }
        is("23 z stays", x.count(7), x.seed(x.count(7)));
        is("23 the hour stays", 0, x.count(1));
        is("23 a hundred", 100, x.behind(100, 0) + x.behind(100, 1));
        is("23 one less", 99, x.behind(99, 0) + x.behind(99, 1));
        for (int wrong : new int[] {-1, 101, MIN, MAX}) is("23 n", BAD, x.behind(wrong, 0));
        for (int wrong : new int[] {-1, 10, MIN, MAX}) is("23 what", BAD, x.behind(1, wrong));
        x.hours(37);
        for (int what = 0; what < 10; what++) {
            is("23 what " + what, what < 5 ? x.room(what) : x.told(what - 5, 3), due[what]);
        }
    }

    // ---- 24
    private static void catching() {
        RoomWatch x = boxed(STOOL, 0);
        is("24 at once", 1, x.catches());
        x.hours(3);
        is("24 more than now", 1, x.catches());
        x.turns(0, LAMP);
        is("24 in hour 4", 2, x.catches());
        is("24 only thought", 3, x.count(1));
        x.rule(0, 100);
        is("24 never", NONE, x.catches());
        RoomWatch y = boxed(STOOL, 0);
        law(y, "reach (h = 199) * 9");
        is("24 the last one", 200, y.catches());
        law(y, "reach (h = 200) * 9");
        is("24 one too late", NONE, y.catches());
        is("24 nobody", NONE, new RoomWatch().catches());
    }

    // ---- 25
    private static void facing() {
        RoomWatch x = boxed(WEDGE, 3);
        is("25 side", 1, x.faces(0, 10, 0));
        is("25 caught", 10, x.faces(0, 10, 1));
        is("25 for one hour", 1, x.faces(0, 1, 1));
        is("25 only thought", 3, x.told(0, 2));
        x.turns(0, SLIT);
        is("25 none sees: the least", 0, x.faces(0, 60, 0));
        is("25 none", 0, x.faces(0, 60, 1));
        x.turns(0, STOOL);
        x.hours(4);
        is("25 with those caught by now", 9, x.faces(0, 5, 1));
        is("25 all the same: the least", 0, x.faces(0, 5, 0));
        for (int wrong : new int[] {-1, 1, MIN, MAX}) is("25 post", BAD, x.faces(wrong, 1, 0));
        for (int wrong : new int[] {-1, 0, 61, MIN, MAX}) is("25 n", BAD, x.faces(0, wrong, 0));
        for (int wrong : new int[] {-1, 2, MIN, MAX}) is("25 what", BAD, x.faces(0, 1, wrong));
    }

    // ---- 26
    private static void becoming() {
        RoomWatch x = boxed(LAMP, 1);
        is("26 all the same: the least", STOOL, x.becomes(0, 10, 0));
        is("26 caught", 10, x.becomes(0, 10, 1));
        is("26 for one hour", 1, x.becomes(0, 1, 1));
        law(x, "reach 0");
        is("26 a wedge reaches", WEDGE, x.becomes(0, 60, 0));
        is("26 caught by a wedge", 60, x.becomes(0, 60, 1));
        is("26 only thought", LAMP, x.told(0, 0));
        x.set(0, 2, 0);
        is("26 none sees", 0, x.becomes(0, 60, 1));
        is("26 none: the least", STOOL, x.becomes(0, 60, 0));
        RoomWatch y = with(DOZER, 16, 1);
        y.thief(23);
        for (int c = 8; c < 16; c++) y.wall(c, 1);
        for (int c = 24; c < 32; c++) y.wall(c, 1);
        y.rule(0, 0);
        y.rule(1, 0);
        law(y, "reach 2");
        is("26 a slit reaches twice as far", SLIT, y.becomes(0, 60, 0));
        for (int wrong : new int[] {-1, 1, MIN, MAX}) is("26 post", BAD, x.becomes(wrong, 1, 0));
        for (int wrong : new int[] {-1, 0, 61, MIN, MAX}) is("26 n", BAD, x.becomes(0, wrong, 0));
        for (int wrong : new int[] {-1, 2, MIN, MAX}) is("26 what", BAD, x.becomes(0, 1, wrong));
    }

    // ---- 27
    private static void likeness() {
        RoomWatch x = new RoomWatch();
        is("27 missing", NOTHING, x.like(0, 0));
        x.sheet(0, 1, 3);
        is("27 nobody", NONE, x.like(0, 0));
        x.post(STOOL, 1, 0);
        x.post(DOZER, 2, 0);
        x.set(1, 3, 60);
        int[] row = {60, 40, 45};
        for (int k = 0; k < 3; k++) x.mark(0, k, row[k]);
        is("27 the dozer", 1, x.like(0, 0));
        is("27 to the hour", 0, x.like(0, 1));
        x.mark(0, 1, -99999);
        is("27 signs left out", 99999 + 40, x.like(0, 1));
        x.mark(0, 1, NONE);
        is("27 no number does not count", 0, x.like(0, 1));
        x.mark(0, 0, 28);
        x.mark(0, 2, 28);
        is("27 28 and 18", 46, x.like(0, 1));
        is("27 the stool, then", 0, x.like(0, 0));
        x.sheet(1, 0, 0);
        is("27 no places: the least", 0, x.like(1, 0));
        is("27 no differences", 0, x.like(1, 1));
        x.sheet(2, 0, 1);
        x.mark(2, 0, 30);
        is("27 of two the least", 0, x.like(2, 0));
        is("27 only thought", 0, x.count(1));
        for (int wrong : new int[] {-1, 4, MIN, MAX}) is("27 sheet", BAD, x.like(wrong, 0));
        for (int wrong : new int[] {-1, 2, MIN, MAX}) is("27 what", BAD, x.like(0, wrong));
        is("27 missing still", NOTHING, x.like(3, 1));
    }

    // ---- 28, 29
    private static void laws() {
        RoomWatch x = boxed(STOOL, 3);
        x.hours(6);
        x.rule(0, 100);
        x.hours(4);
        is("28 without a text", 6, x.fee());
        law(x, "fee c*100+u");
        is("28 by a text", 604, x.fee());
        law(x, "fee 0-c");
        is("28 the last one counts", -6, x.fee());
        is("29 without a text", 3, x.fine(0));
        law(x, "fine t*100+c");
        is("29 by a text", 5038, x.fine(0));
        is("28 stays", -6, x.fee());
        for (int wrong : new int[] {-1, 1, MIN, MAX}) is("29 post", BAD, x.fine(wrong));

        law(x, "reach t/10+s+h");
        is("3 reach by a law", 5 + 3 + 10, x.told(0, 5));
        law(x, "reach 0-1");
        is("3 held from below", 0, x.told(0, 5));
        x.turns(0, SLIT);
        is("3 held, then twice as a wedge", 4, x.told(0, 5));
        law(x, "reach 9999");
        is("3 held from above", 202, x.told(0, 5));
    }

    // ---- 30, 31
    private static void tape() {
        RoomWatch x = new RoomWatch();
        for (int k = 1; k <= 8; k++) is("30 feed", 12 * k, x.feed(0, 0, 0));
        is("30 full", FULL, x.feed(0, 0, 0));
        is("48 bytes", 96, x.count(6));
        for (int wrong : new int[] {-1, 97, MIN, MAX}) is("31 n", BAD, x.trim(wrong));
        is("31 all", 96, x.trim(96));
        is("31 trim", 85, x.trim(85));
        is("30 97 would be", FULL, x.feed(0, 0, 0));
        is("31 again", 84, x.trim(84));
        is("31 not more", BAD, x.trim(85));
        is("30 96", 96, x.feed(0, 0, 0));
        is("31 none", 0, x.trim(0));
        is("31 is none", 0, x.count(6));
        is("30 bytes, the highest first", 12, x.feed(0x66656520, 0x2863202B, 0x20313229));
        is("32 fee (c + 12)", 0, x.text());
        is("28 by it", 12, x.fee());
        is("4 used up", 0, x.count(6));
        x.feed(0xFF656520, 0, 0);
        is("32 a byte above 127", -100, x.text());
        is("4 used up by a fault", 0, x.count(6));
    }

    // ---- 32
    private static void texts() {
        RoomWatch x = new RoomWatch();
        for (int k = 0; k < 14; k++) is("32 text", k, Due.text(x, "fee " + k));
        is("32 the fifteenth", FULL, Due.text(x, "fee 99"));
        is("4 used up by FULL", 0, x.count(6));
        is("32 a FAULT stands first", -104, Due.text(x, "fee x"));
        is("28 the last of them", 13, x.fee());
        is("34 the last of them", 13, x.why(1));
        is("48 texts", 14, x.count(4));
        StringBuilder longest = new StringBuilder("fee 0");
        while (longest.length() < 95) longest.append("+1");
        longest.append(' ');
        RoomWatch y = new RoomWatch();
        is("32 96 bytes", 0, Due.text(y, longest.substring(0, 96)));
        is("28 all of them", 45, y.fee());
        is("33 leaves", 46, y.textTold(0, 1));
    }

    private static void fault(String text, int place) {
        is("32 '" + text + "'", place < 0 ? 0 : -100 - place, Due.text(new RoomWatch(), text));
    }

    private static void faults() {
        fault("", 0);
        fault("   ", 3);
        fault("fee", 3);
        fault("fee  ", 5);
        fault("feec", 0);
        fault("  fees c", 2);
        fault("reacht", 0);
        fault("Fee c", 0);
        fault("(fee c)", 0);
        fault("5", 0);
        fault("fee5", 3);
        fault("fee 5", -1);
        fault("fee(5)", -1);
        fault("fee!5", -1);
        fault("  fee   c  ", -1);
        fault("fee c u", 6);
        fault("fee c5", 5);
        fault("fee 5c", 5);
        fault("fee cu", 4);
        fault("fee cz", 4);
        fault("fee ac", 4);
        fault("xee c", 0);
        fault("fee t", 4);
        fault("fine u", 5);
        fault("fine t+c", -1);
        fault("reach c", 6);
        fault("reach t+s+h", -1);
        fault("fee 9999", -1);
        fault("fee 0000", -1);
        fault("fee 10000", 4);
        fault("fee 1 + 00001", 8);
        fault("fee c < u < 3", 10);
        fault("fee (c < u) < 3", -1);
        fault("fee c < u & c = u | c > u", -1);
        fault("fee c + 1 < u * 2 = 3", 18);
        fault("fee c = = u", 8);
        fault("fee -c", 4);
        fault("fee c--u", 6);
        fault("fee c !u", 6);
        fault("fee c + !u", -1);
        fault("fee ()", 5);
        fault("fee (c", 6);
        fault("fee (c ", 7);
        fault("fee c)", 5);
        fault("fee (c))", 7);
        fault("fee c +", 7);
        fault("fee !", 5);
        fault("fee c (u)", 6);
        fault("fee c & & u", 8);
        fault("fee c\tu", 5);
        fault("fee c\u0000", 5);
        fault("fee c % u", 6);
        fault("fee ((((((((c))))))))", -1);
        fault("fee (((((((((c)))))))))", 12);
        fault("fee (((((((( (c)))))))))", 13);
        fault("fee ((((((((c))))))))+((((((((c))))))))", -1);
        fault("fee !!!!!!!!c", -1);
        fault("fee !!!!!!!!!c", 12);
        fault("fee !!!!!!!!c+!!!!!!!!u", -1);
        fault("fee !(!(!(!(!(!(!(!(!c))))))))", 20);
        fault("fee !(!(!(!(!(!(!(!(c))))))))", -1);
        fault("fee !(!!!!!!!c+!c)", -1);
        fault("fee !(!!!!!!!c+!!!!!!!!c)", 22);
        fault("fee !!!!!!!!((((((((c))))))))", -1);
        RoomWatch x = new RoomWatch();
        is("32 left open", -113, Due.text(x, "fee ((((((((c"));
        is("32 left open, too", -112, Due.text(x, "fee !!!!!!!!"));
        is("32 an earlier FAULT leaves nothing behind", 0, Due.text(x, "fee !!!!!!!!((((((((5))))))))"));
        is("28 nor any step", 1, x.fee());
    }

    private static void gives(String text, int want) {
        RoomWatch x = new RoomWatch();
        is("32 '" + text + "'", 0, Due.text(x, "fee " + text));
        is("28 '" + text + "'", want, x.fee());
    }

    private static void worth() {
        gives("2+3*4", 14);
        gives("(2+3)*4", 20);
        gives("20-5-3", 12);
        gives("100/5/2", 10);
        gives("7/2*2", 6);
        gives("2*7/2", 7);
        gives("(0-7)/2", -3);
        gives("5/0", 0);
        gives("5/0+3", 3);
        gives("3<4", 1);
        gives("4<4", 0);
        gives("4=4", 1);
        gives("4=5", 0);
        gives("5>4", 1);
        gives("4>4", 0);
        gives("1+1=2", 1);
        gives("1=1+1", 0);
        gives("2|0", 1);
        gives("0|0", 0);
        gives("2&4", 1);
        gives("2&0", 0);
        gives("1&1", 1);
        gives("0&1", 0);
        gives("1|0&0", 1);
        gives("(1|0)&0", 0);
        gives("0&1|1", 1);
        gives("1<2&2<1", 0);
        gives("5&3=3", 1);
        gives("!5", 0);
        gives("!0", 1);
        gives("!!7", 1);
        gives("!0+4", 5);
        gives("!(0+4)", 0);
        gives("!1=0", 1);
        gives("3*!0*2", 6);
        gives("0-!0", -1);
        gives("9999*9999*9999", 9999 * 9999 * 9999);
        gives("(0-32*8192*8192-1+1)/(0-1)", MIN);
        gives("0007", 7);
        gives("9", 9);
    }

    // ---- 33, 34
    private static void textsTold() {
        RoomWatch x = new RoomWatch();
        is("34 none", NONE, x.why(0));
        law(x, "fine 12+t*!c");
        law(x, "reach 5");
        law(x, "fee (c+u)/(c+u)");
        law(x, "reach s");
        int[][] told = {{2, 3}, {0, 1}, {1, 4}, {0, 1}};
        for (int k = 0; k < 4; k++) {
            is("33 key", told[k][0], x.textTold(k, 0));
            is("33 numbers and names", told[k][1], x.textTold(k, 1));
        }
        is("34 reach", 3, x.why(0));
        is("34 fee", 2, x.why(1));
        is("34 fine", 0, x.why(2));
        for (int wrong : new int[] {-1, 4, MIN, MAX}) is("33 text", BAD, x.textTold(wrong, 0));
        for (int wrong : new int[] {-1, 2, MIN, MAX}) is("33 what", BAD, x.textTold(0, wrong));
        for (int wrong : new int[] {-1, 3, MIN, MAX}) is("34 key", BAD, x.why(wrong));
    }

    // ---- 35
    private static void sheets() {
        RoomWatch x = new RoomWatch();
        is("35 shorts", 24, x.sheet(0, 0, 24));
        is("35 floats", 0, x.sheet(3, 1, 0));
        is("35 too many", BAD, x.sheet(0, 0, 25));
        is("35 far too many", BAD, x.sheet(0, 1, MAX));
        is("35 below 0", SIZE, x.sheet(0, 1, -1));
        is("35 far below 0", SIZE, x.sheet(0, 0, MIN));
        for (int wrong : new int[] {-1, 4, MIN, MAX}) is("35 sheet", BAD, x.sheet(wrong, 0, -1));
        for (int wrong : new int[] {-2, 2, MIN, MAX}) is("35 sort", BAD, x.sheet(0, wrong, -1));
        is("35 stays", 1, x.mark(0, 23, 9));
        is("35 anew", 24, x.sheet(0, 0, 24));
        x.lay(0, 2, 0);
        is("35 all 0", 0, x.item(0, 23));
        for (int n : new int[] {-1, 0, 5, 25, MIN, MAX}) is("35 missing", 0, x.sheet(0, -1, n));
        is("35 is missing", NOTHING, x.mark(0, 0, 0));
        x.sheet(1, 1, 2);
        x.mark(1, 0, NONE);
        x.sheet(1, 1, 2);
        x.lay(0, 2, 1);
        is("35 numbers again", 0, x.item(0, 0));
    }

    private static int marked(RoomWatch x, int sheet, int place) {
        x.lay(4, 2, sheet);
        return x.item(4, place);
    }

    // ---- 36
    private static void marks() {
        RoomWatch x = new RoomWatch();
        x.sheet(0, 0, 3);
        x.sheet(1, 1, 3);
        int[][] shorts = {{32767, 32767}, {32768, -32768}, {65535, -1}, {65536, 0}, {-32769, 32767}, {MIN, 0}, {MAX, -1}, {-5, -5}};
        for (int[] s : shorts) {
            is("36 short", 1, x.mark(0, 2, s[0]));
            is("36 its lowest bits", s[1], marked(x, 0, 2));
        }
        is("36 no number among shorts", KIND, x.mark(0, 0, NONE));
        for (int v : new int[] {-99999, 99999, 0, 32768}) {
            is("36 float", 1, x.mark(1, 0, v));
            is("36 it is", v, marked(x, 1, 0));
        }
        for (int v : new int[] {-100000, 100000, MIN, MAX, BAD, NO}) is("36 v", BAD, x.mark(1, 0, v));
        is("36 stays", 32768, marked(x, 1, 0));
        is("36 no number", 1, x.mark(1, 0, NONE));
        is("36 is none", KIND, marked(x, 1, 0));
        is("36 a number again", 1, x.mark(1, 0, 4));
        is("36 it is 4", 4, marked(x, 1, 0));
        for (int wrong : new int[] {-1, 4, MIN, MAX}) is("36 sheet", BAD, x.mark(wrong, 0, 0));
        for (int wrong : new int[] {-1, 3, MIN, MAX}) {
            is("36 place", INDEX, x.mark(0, wrong, 0));
            is("36 INDEX stands ahead of KIND", INDEX, x.mark(0, wrong, NONE));
            is("36 INDEX stands ahead of BAD", INDEX, x.mark(1, wrong, 100000));
            is("36 NOTHING stands ahead", NOTHING, x.mark(2, wrong, NONE));
        }
    }

    // ---- 37, 38
    private static void pouring() {
        RoomWatch x = new RoomWatch();
        is("37 missing", NOTHING, x.pour(0));
        is("38 missing", NOTHING, x.reads(0));
        x.sheet(0, 1, 5);
        is("37 nobody", 0, x.pour(0));
        for (int k = 0; k < 6; k++) {
            x.post(STOOL, 10 + k, 0);
            x.set(k, 3, 7);
        }
        int[] row = {100, -1, NONE, 7, 99};
        for (int k = 0; k < 5; k++) x.mark(0, k, row[k]);
        is("37 otherwise", 3, x.pour(0));
        int[] tired = {99, 0, 7, 7, 99, 7};
        for (int k = 0; k < 6; k++) is("37 tired of " + k, tired[k], x.told(k, 3));
        is("37 again", 0, x.pour(0));
        is("38 at once", 0, x.reads(0));
        x.sheet(1, 1, 8);
        for (int k = 0; k < 6; k++) x.mark(1, k, 10 + k);
        is("38 no post", 6, x.reads(1));
        x.mark(1, 6, NONE);
        is("38 no number, no post", 7, x.reads(1));
        x.mark(1, 7, NONE);
        is("38 none", NONE, x.reads(1));
        x.mark(1, 3, NONE);
        is("38 of numbers alone", NONE, x.reads(1));
        x.mark(1, 2, -12);
        is("38 not that cell", 2, x.reads(1));
        x.sheet(2, 0, 0);
        is("38 no places", NONE, x.reads(2));
        is("37 no places", 0, x.pour(2));
        for (int wrong : new int[] {-1, 4, MIN, MAX}) {
            is("37 sheet", BAD, x.pour(wrong));
            is("38 sheet", BAD, x.reads(wrong));
        }
    }

    // ---- 39
    private static void copies() {
        RoomWatch x = new RoomWatch();
        x.sheet(0, 1, 6);
        x.sheet(1, 1, 4);
        x.sheet(2, 0, 6);
        for (int k = 0; k < 6; k++) x.mark(0, k, 10 + k);
        x.mark(0, 2, NONE);
        is("39 copy", 3, x.copy(0, 1, 1, 1, 3));
        int[] got = {0, 11, KIND, 13};
        for (int k = 0; k < 4; k++) is("39 place " + k, got[k], marked(x, 1, k));
        is("39 the same, upwards", 5, x.copy(0, 0, 0, 1, 5));
        int[] up = {10, 10, 11, KIND, 13, 14};
        for (int k = 0; k < 6; k++) is("39 as they were, place " + k, up[k], marked(x, 0, k));
        is("39 the same, downwards", 5, x.copy(0, 1, 0, 0, 5));
        int[] down = {10, 11, KIND, 13, 14, 14};
        for (int k = 0; k < 6; k++) is("39 as they were again, place " + k, down[k], marked(x, 0, k));
        is("39 none", 0, x.copy(0, 6, 1, 4, 0));
        is("39 all", 4, x.copy(0, 2, 1, 0, 4));
        int[][] none = {{5, 0, 2}, {0, 3, 2}, {-1, 0, 1}, {0, -1, 1}, {0, 0, -1}, {7, 0, 0}, {0, 5, 0}, {0, 0, 5}, {MAX, 0, 1},
            {0, MAX, 1}, {1, 1, MAX}, {MIN, 0, 0}, {0, 0, MIN}, {MAX, MAX, MAX}};
        for (int[] n : none) {
            is("39 place", INDEX, x.copy(0, n[0], 1, n[1], n[2]));
            is("39 KIND stands ahead", KIND, x.copy(0, n[0], 2, n[1], n[2]));
            is("39 NOTHING stands ahead", NOTHING, x.copy(3, n[0], 2, n[1], n[2]));
            is("39 NOTHING at the other", NOTHING, x.copy(2, n[0], 3, n[1], n[2]));
            is("39 BAD stands ahead", BAD, x.copy(4, n[0], 3, n[1], n[2]));
            is("39 BAD at the other", BAD, x.copy(3, n[0], -1, n[1], n[2]));
        }
    }

    // ---- 40, 41, 42, 43
    private static void slots() {
        RoomWatch x = with(SLIT, 3, 0);
        x.set(0, 3, 6);
        x.sheet(1, 0, 2);
        x.mark(1, 1, -8);
        is("40 a post", 0, x.lay(0, 1, 0));
        is("40 a sheet", 0, x.lay(1, 2, 1));
        is("40 a number", 0, x.lay(2, 3, -17));
        is("40 nothing", 0, x.lay(3, 0, MAX));
        is("40 a missing sheet", NOTHING, x.lay(0, 2, 0));
        for (int wrong : new int[] {-1, 1, MIN, MAX}) is("40 no post", BAD, x.lay(0, 1, wrong));
        for (int wrong : new int[] {-1, 4, MIN, MAX}) {
            is("40 no sheet", BAD, x.lay(0, 2, wrong));
            is("40 no thing", BAD, x.lay(0, wrong, 0));
        }
        for (int wrong : new int[] {-1, 5, MIN, MAX}) {
            is("40 slot", BAD, x.lay(wrong, 0, 0));
            is("41 slot", BAD, x.ask(wrong, 0));
            is("42 slot", BAD, x.item(wrong, 0));
            is("43 slot", BAD, x.rest(wrong, 0));
        }
        x.set(0, 3, 50);
        x.turns(0, DOZER);
        x.mark(1, 1, 9);
        int[] asked = {20, 20, KIND, 20, KIND, KIND};
        for (int kind = 0; kind < 6; kind++) is("41 as it was then, for a " + kind, asked[kind], x.ask(0, kind));
        for (int wrong : new int[] {-1, 6, MIN, MAX}) {
            is("41 kind", BAD, x.ask(0, wrong));
            is("41 BAD stands first", BAD, x.ask(3, wrong));
        }
        is("41 nothing", NOTHING, x.ask(3, 0));
        is("41 a sheet", KIND, x.ask(1, 0));
        is("41 a number", KIND, x.ask(2, 0));
        is("42 as it was then", -8, x.item(1, 1));
        for (int wrong : new int[] {-1, 2, MIN, MAX}) {
            is("42 place", INDEX, x.item(1, wrong));
            is("42 KIND stands first", KIND, x.item(0, wrong));
            is("42 NOTHING stands first", NOTHING, x.item(3, wrong));
        }
        is("42 a number", KIND, x.item(2, 0));
        x.sheet(1, -1, 0);
        is("42 a row of its own", 0, x.item(1, 0));
        is("43 cuts towards 0", -2, x.rest(2, 5));
        is("43 by less than 0", -2, x.rest(2, -5));
        is("43 by 0", NO, x.rest(2, 0));
        is("43 no number", KIND, x.rest(0, 0));
        is("43 a sheet", KIND, x.rest(1, 1));
        is("43 nothing", NOTHING, x.rest(3, 0));
        is("40 held a number", 3, x.lay(2, 3, MIN));
        is("43 of the least", 0, x.rest(2, -1));
        is("43 by the least", -1, rest(x, -1, MIN));
        is("40 held a post", 1, x.lay(0, 0, 9));
        is("40 holds nothing", NOTHING, x.ask(0, 0));
        is("40 held a sheet", 2, x.lay(1, 1, 0));
        is("41 a dozer", 3, x.ask(1, 5));
    }

    private static int rest(RoomWatch x, int number, int by) {
        x.lay(4, 3, number);
        return x.rest(4, by);
    }

    // ---- 44
    private static void waiting() {
        RoomWatch x = new RoomWatch();
        for (int k = 1; k <= 60; k++) is("44 tell", k, x.tell(MIN));
        is("44 full", FULL, x.tell(0));
        is("48 wait", 60, x.count(5));
        is("45 no image", NO, x.check(30));
        is("45 none wait then", 0, x.count(5));
        x.tell(1);
        is("45 BAD stands first", BAD, x.check(0));
        is("45 none wait behind BAD", 0, x.count(5));
    }

    // ---- 45
    private static void checks() {
        RoomWatch x = boxed(STOOL, 0);
        x.hours(2);
        x.keep();
        for (int wrong : new int[] {-1, 0, 31, MIN, MAX}) is("45 n", BAD, x.check(wrong));
        x.turns(0, DOZER);
        x.rule(0, 100);
        law(x, "reach 0");
        for (int from = 0; from < 4; from++) {
            for (int k = 1; k <= 30; k++) {
                x.tell(2 + k);
                x.tell(Math.min(99, 10 + 5 * k) + (from == 1 && k == 20 ? 1 : 0));
            }
            is("45 thirty hours by the image", from == 1 ? 40 : 0, x.check(30));
        }
        x.tell(3);
        is("45 one is missing", 2, x.check(1));
        is("45 all are missing", 1, x.check(1));
        x.tell(3);
        x.tell(15);
        x.tell(4);
        is("45 one too many", 3, x.check(1));
        is("45 nothing changes", 2, x.count(1));
        x.tell(3);
        x.tell(15);
        is("45 right", 0, x.check(1));
    }

    // ---- 46, 47
    private static void images() {
        RoomWatch x = boxed(WEDGE, 1);
        is("47 no image", NO, x.back());
        law(x, "reach 9");
        law(x, "fee c + 1000");
        x.seed(50);
        x.hours(2);
        int z = x.count(7);
        is("46 keep", 1, x.keep());
        x.post(STOOL, 2, 2);
        x.turns(0, SLIT);
        x.set(0, 2, 0);
        x.set(0, 3, 88);
        x.moves(0, 1);
        x.wall(46, 0);
        x.thief(30);
        x.rule(0, 55);
        x.rule(1, 66);
        x.hours(10);
        law(x, "reach 1");
        law(x, "fine 77");
        x.sheet(0, 0, 3);
        x.lay(0, 3, 5);
        x.tell(9);
        x.feed(1, 2, 3);
        for (int again = 0; again < 2; again++) {
            is("47 back", 1, x.back());
            int[] told = {WEDGE, 38, 1, 10};
            for (int k = 0; k < 4; k++) is("47 told " + k, told[k], x.told(0, k));
            int[] counts = {1, 2, 0, 0, 2, 1, 12, z};
            for (int k = 0; k < 8; k++) is("47 count " + k, counts[k], x.count(k));
            is("47 reach", 11, x.told(0, 5));
            is("47 why reach", 0, x.why(0));
            is("47 why fine", NONE, x.why(2));
            is("47 fine", 1, x.fine(0));
            is("47 fee", 1002, x.fee());
            is("47 wall", 1, x.at(46, 1));
            is("47 thief", 47, x.room(2));
            is("47 caught", 2, x.room(0));
            is("47 unseen", 0, x.room(1));
            is("47 sheets stay", 2, x.copy(0, 0, 0, 1, 2));
            is("47 slots stay", 1, x.rest(0, 2));
            x.set(0, 3, 44);
            x.deal(3);
            x.hours(3);
            x.seed(4);
            x.thief(0);
        }
        is("46 keep anew", 4, x.keep());
        x.back();
        is("47 the last image", 4, x.count(0));
        law(x, "fine 5");
        is("32 the number behind those of the image", 3, Due.text(x, "fine 6"));
        is("29 by it", 6, x.fine(0));
    }

    // ---- 48
    private static void counts() {
        RoomWatch x = new RoomWatch();
        x.post(0, 1, 0);
        x.hours(3);
        x.rule(0, 11);
        x.rule(1, 12);
        law(x, "fee 1");
        x.tell(4);
        x.tell(4);
        x.feed(0, 0, 0);
        x.seed(-3);
        int[] counts = {1, 3, 11, 12, 1, 2, 12, -3};
        for (int k = 0; k < 8; k++) is("48 what " + k, counts[k], x.count(k));
        for (int wrong : new int[] {-1, 8, MIN, MAX}) is("48 what", BAD, x.count(wrong));
    }
}
