/** Boundary cases of hours, of what is thought, and of laws: the terms' second and third part, promises 21 to 29. */
final class HourBounds {
    private static final int BAD = Sentences.BAD, NONE = Sentences.NONE, NOTHING = Sentences.NOTHING;
    private static final int STOOL = 0, WEDGE = 1, LAMP = 2, SLIT = 3, DOOR = 4, DOZER = 5;

    /** The last hour, with somebody of each sort of waking. */
    private static final States.Run LATE = x -> {
        x.post(STOOL, 1, 0);
        x.post(LAMP, 20, 1);
        x.post(DOZER, 40, 2);
        for (int k = 0; k < 99; k++) x.hours(100);
        x.hours(99);
        x.sheet(1, 1, 24);
    };

    private final Sentences s;

    private HourBounds(Sentences s) {
        this.s = s;
    }

    static void run(Sentences s) {
        HourBounds all = new HourBounds(s);
        all.thiefGoes();
        all.seenOrNot();
        all.tired();
        all.turning();
        all.onlyThought();
        all.behindTerm();
        all.catchesTerm();
        all.facedTerm();
        all.becomesTerm();
        all.likeTerm();
        all.hours();
        all.room();
        all.behind();
        all.catches();
        all.faces();
        all.becomes();
        all.like();
        all.fee();
        all.fine();
    }

    private static RoomWatch with(int kind, int cell, int side) {
        RoomWatch x = new RoomWatch();
        x.post(kind, cell, side);
        return x;
    }

    /** THE THIEF cannot leave the last cell; a post in 38 looks at it past the walls' corner. No luck, no turning. */
    private static RoomWatch boxed(int kind, int side, String... laws) {
        RoomWatch x = with(kind, 38, side);
        x.thief(47);
        x.wall(46, 1);
        x.wall(39, 1);
        x.rule(0, 0);
        x.rule(1, 0);
        for (String law : laws) Due.text(x, law);
        return x;
    }

    /** THE THIEF cannot leave a row or column at the room's edge, at one end of which a post stands. */
    private static RoomWatch corridor(int post, int thief, int firstWall, int step) {
        RoomWatch x = with(STOOL, post, 0);
        x.thief(thief);
        for (int cell = firstWall; cell < 48 && (step > 1 || cell < firstWall + 8); cell += step) x.wall(cell, 1);
        x.rule(0, 0);
        x.rule(1, 0);
        return x;
    }

    private static RoomWatch seeded(RoomWatch x, int seed) {
        x.seed(seed);
        return x;
    }

    // ---- 2 AN HOUR

    private void thiefGoes() {
        s.holds(Sentences.TERMS, "AN HOUR: (1) a draw; THE THIEF goes one CELL to the SIDE that is its rest by 4, if there is one, without a WALL.");
        int[][] ways = {{27, 19, 28, 35, 26}, {0, 0, 1, 8, 0}, {7, 7, 7, 15, 6}, {40, 32, 41, 40, 40}, {47, 39, 47, 47, 46},
            {3, 3, 4, 11, 2}, {8, 0, 9, 16, 8}, {24, 16, 25, 32, 24}, {31, 23, 31, 39, 30}, {39, 31, 39, 47, 38}, {44, 36, 45, 44, 43}};
        for (int[] way : ways) {
            for (int side = 0; side < 4; side++) {
                int seed = Lot.seed(1, 4, side);
                RoomWatch x = seeded(new RoomWatch(), seed);
                x.thief(way[0]);
                x.hours(1);
                s.is("from " + way[0] + " to side " + side, way[1 + side], x.room(2));
                RoomWatch walled = seeded(new RoomWatch(), seed);
                walled.thief(way[0]);
                walled.wall(way[1 + side], 1);
                walled.hours(1);
                s.is("from " + way[0] + " to a wall at side " + side, way[0], walled.room(2));
                RoomWatch post = seeded(with(STOOL, way[1 + side], 0), seed);
                post.thief(way[0]);
                post.hours(1);
                s.is("from " + way[0] + " to a post at side " + side, way[1 + side], post.room(2));
            }
        }
    }

    private void seenOrNot() {
        s.holds(Sentences.TERMS, "(2) A draw; if its rest by 100 is below STEALTH, or none who is AWAKE SEES the CELL of THE THIEF, UNSEEN is 1 more, else CAUGHT.");
        for (int rest : new int[] {0, 1, 19, 20, 21, 50, 98, 99}) {
            int seed = Lot.seed(2, 100, rest);
            for (int stealth : new int[] {0, rest, rest + 1, 100}) {
                RoomWatch x = seeded(boxed(STOOL, 0), seed);
                x.rule(0, stealth);
                int caught = rest < stealth ? 0 : 1;
                s.is("rest " + rest + " and stealth " + stealth, caught, x.hours(1));
                s.is("caught", caught, x.room(0));
                s.is("unseen", 1 - caught, x.room(1));
                s.is("draws", Lot.zAfter(seed, 3), x.count(7));
            }
        }
        for (int rest : new int[] {19, 20}) {
            RoomWatch x = with(STOOL, 1, 0);
            Due.text(x, "reach 99");
            seeded(x, Lot.seed(2, 100, rest));
            s.is("rest " + rest + " and stealth as at first", rest == 20 ? 1 : 0, x.hours(1));
        }
        s.is("nobody", 0, seeded(new RoomWatch(), 3).hours(100));
        RoomWatch lamp = boxed(LAMP, 0);
        s.is("a lamp in hour 0", 1, lamp.hours(1));
        s.is("a lamp in hour 1", 0, lamp.hours(1));
        lamp.post(DOOR, 30, 0);
        s.is("both in hour 2", 1, lamp.hours(1));
        s.is("who is awake in hour 3 does not see", 0, lamp.hours(1));
        RoomWatch dozer = boxed(DOZER, 0);
        dozer.set(0, 3, 49);
        s.is("a dozer of 49", 1, dozer.hours(1));
        s.is("a dozer of 54", 0, dozer.hours(1));
        s.is("a dozer of 34", 1, dozer.hours(1));
        for (int side : new int[] {1, 3}) {
            RoomWatch x = with(STOOL, 1, 0);
            Due.text(x, "reach 0");
            x.rule(0, 0);
            x.thief(side == 1 ? 0 : 1);
            seeded(x, Lot.seed(1, 4, side));
            s.is("where it has gone to, side " + side, side == 1 ? 1 : 0, x.hours(1));
        }
        s.is("as tired as before the hour", 0, boxed(STOOL, 0, "reach t").hours(1));
        s.is("then it is tired", 1, boxed(STOOL, 0, "reach t").hours(2));
        s.is("by the hour as it is", 0, boxed(STOOL, 0, "reach h*9").hours(1));
        RoomWatch turned = boxed(WEDGE, 0);
        turned.rule(1, 100);
        s.is("to the side as before the hour", 0, turned.hours(1));
        s.is("then to the next one", 1, turned.hours(1));
    }

    private void tired() {
        s.holds(Sentences.TERMS, "(3) POSTS by numbers: who is AWAKE is 5 more TIRED (99 at most), another one 20 less (0 at least).");
        int[][] awake = {{0, 5}, {1, 6}, {93, 98}, {94, 99}, {95, 99}, {98, 99}, {99, 99}};
        int[][] not = {{99, 79}, {21, 1}, {20, 0}, {19, 0}, {1, 0}, {0, 0}};
        for (int kind : new int[] {STOOL, WEDGE, SLIT, LAMP, DOOR}) {
            for (int[] t : awake) s.is("kind " + kind + " of " + t[0], t[1], tiredBehind(kind, t[0], 0));
        }
        for (int[] t : not) {
            s.is("a lamp that is out, of " + t[0], t[1], tiredBehind(LAMP, t[0], 1));
            s.is("a door that is out, of " + t[0], t[1], tiredBehind(DOOR, t[0], 1));
        }
        int[][] dozer = {{0, 5}, {44, 49}, {45, 50}, {49, 54}, {50, 30}, {51, 31}, {99, 79}};
        for (int[] t : dozer) s.is("a dozer of " + t[0], t[1], tiredBehind(DOZER, t[0], 0));
        s.is("a door in hour 3", 5, tiredBehind(DOOR, 0, 3));
        s.is("a lamp in hour 3", 0, tiredBehind(LAMP, 0, 3));
        RoomWatch x = new RoomWatch();
        for (int k = 0; k < 8; k++) x.post(k % 2 == 0 ? STOOL : LAMP, k, 0);
        x.hours(1);
        for (int k = 0; k < 8; k++) x.set(k, 3, 50);
        x.hours(1);
        for (int k = 0; k < 8; k++) s.is("each of eight by itself, " + k, k % 2 == 0 ? 55 : 30, x.told(k, 3));
    }

    private static int tiredBehind(int kind, int tired, int hour) {
        RoomWatch x = with(kind, 20, 0);
        for (int k = 0; k < hour; k++) x.hours(1);
        x.set(0, 3, tired);
        x.hours(1);
        return x.told(0, 3);
    }

    private void turning() {
        s.holds(Sentences.TERMS, "(4) A draw; if its rest by 100 is below TIRES (and there are POSTS), one more: SIDE of the one that is its rest by how many there are is the next one (of 3: 0).");
        for (int rest : new int[] {0, 1, 29, 30, 31, 50, 98, 99}) {
            int seed = Lot.seed(3, 100, rest);
            for (int tires : new int[] {0, rest, rest + 1, 100}) {
                RoomWatch x = seeded(with(STOOL, 20, 0), seed);
                x.rule(1, tires);
                x.hours(1);
                boolean turns = rest < tires;
                s.is("rest " + rest + " and tires " + tires, turns ? 1 : 0, x.told(0, 2));
                s.is("draws", Lot.zAfter(seed, turns ? 4 : 3), x.count(7));
            }
        }
        for (int rest : new int[] {29, 30}) {
            RoomWatch x = seeded(with(STOOL, 20, 0), Lot.seed(3, 100, rest));
            x.hours(1);
            s.is("rest " + rest + " and tires as at first", rest == 29 ? 1 : 0, x.told(0, 2));
        }
        RoomWatch nobody = seeded(new RoomWatch(), 8);
        nobody.rule(1, 100);
        nobody.hours(1);
        s.is("no posts, no fourth draw", Lot.zAfter(8, 3), nobody.count(7));
        for (int many = 1; many <= 8; many++) {
            for (int which = 0; which < many; which++) {
                RoomWatch x = new RoomWatch();
                for (int k = 0; k < many; k++) x.post(STOOL, k, 3);
                x.rule(1, 100);
                seeded(x, Lot.seed(4, many, which)).hours(1);
                for (int k = 0; k < many; k++) {
                    s.is("the one that is " + which + " of " + many + ": side of " + k, k == which ? 0 : 3, x.told(k, 2));
                }
            }
        }
        RoomWatch round = with(STOOL, 20, 0);
        round.rule(1, 100);
        for (int side : new int[] {1, 2, 3, 0, 1}) {
            round.hours(1);
            s.is("the next one", side, round.told(0, 2));
        }

        s.holds(Sentences.TERMS, "THE HOUR is 1 more.");
        RoomWatch x = new RoomWatch();
        for (int hour = 1; hour <= 3; hour++) {
            x.hours(1);
            s.is("hour", hour, x.count(1));
        }
        x.hours(100);
        s.is("a hundred on", 103, x.count(1));
    }

    // ---- 3 what is thought

    private void onlyThought() {
        s.holds(Sentences.TERMS, "(All that follows is only thought, z as it is, without the bound of THE HOUR: nothing changes.)");
        for (States.Run state : new States.Run[] {States.RICH, States.PACKED, LATE}) {
            for (int what = 0; what <= 5; what++) {
                int told = what;
                s.quiet("behind " + what, state, x -> x.behind(100, told));
            }
            s.quiet("catches", state, RoomWatch::catches);
            for (int what = 0; what <= 1; what++) {
                int told = what;
                s.quiet("faces " + what, state, x -> x.faces(1, 60, told));
                s.quiet("becomes " + what, state, x -> x.becomes(1, 60, told));
                s.quiet("like " + what, state, x -> x.like(1, told));
            }
        }
        RoomWatch late = States.after(LATE);
        s.is("it is the last hour", 9999, late.count(1));
        int seen = late.room(0) + late.room(1);
        s.is("a hundred hours more", seen + 100, late.behind(100, 0) + late.behind(100, 1));
        late.set(1, 3, 60);
        s.is("a lamp in hour 9999", 40, late.behind(1, 6));
        s.is("a lamp in hour 10000", 45, late.behind(2, 6));
        s.is("a lamp in hour 10001", 25, late.behind(3, 6));
        int[] lamp = {60, 40, 45};
        for (int k = 0; k < 24; k++) late.mark(1, k, k < 3 ? lamp[k] : NONE);
        s.is("like the lamp behind the last hour", 1, late.like(1, 0));
        s.is("to the hour", 0, late.like(1, 1));
        RoomWatch last = boxed(STOOL, 0, "reach (h>9999)*9");
        for (int k = 0; k < 100; k++) last.hours(k < 99 ? 100 : 99);
        s.is("caught in nine of ten hours from 9999 on, whatever the side", 9, last.faces(0, 10, 1));
        s.is("and as the best kind", 9, last.becomes(0, 10, 1));
        s.is("and behind them", 9, last.behind(10, 0));
        RoomWatch z = seeded(boxed(STOOL, 0), 4);
        z.rule(0, 50);
        int due = z.behind(1, 0);
        s.is("z as it is", due, z.hours(1));
    }

    private void behindTerm() {
        s.holds(Sentences.TERMS, "BEHIND n HOURS: CAUGHT; UNSEEN; where THE THIEF is; those that are AWAKE; TIRED of all, together; TIRED of a POST.");
        for (int n : new int[] {1, 2, 99, 100}) {
            for (States.Run state : new States.Run[] {States.BARE, States.RICH, States.PACKED}) {
                RoomWatch thinks = States.after(state), does = States.after(state);
                does.hours(n);
                for (int what = 0; what < 5; what++) s.is("behind " + n + ", " + what, does.room(what), thinks.behind(n, what));
                for (int k = 0; k < does.count(0); k++) s.is("behind " + n + ", tired of " + k, does.told(k, 3), thinks.behind(n, 5 + k));
            }
        }
    }

    private void catchesTerm() {
        s.holds(Sentences.TERMS, "CATCHES: behind how many HOURS (1 .. 200) CAUGHT is more than now first.");
        s.is("in the first hour", 1, boxed(STOOL, 0).catches());
        for (int hours : new int[] {2, 3, 199, 200}) {
            s.is("in hour " + hours, hours, boxed(STOOL, 0, "reach (h=" + (hours - 1) + ")*9").catches());
        }
        s.is("in hour 201", NONE, boxed(STOOL, 0, "reach (h=200)*9").catches());
        RoomWatch x = boxed(STOOL, 0);
        x.hours(5);
        s.is("more than now", 1, x.catches());
        RoomWatch late = boxed(STOOL, 0, "reach (h=9998+200)*9");
        for (int k = 0; k < 99; k++) late.hours(100);
        late.hours(99);
        s.is("from the last hour on, the 200th", 200, late.catches());
        Due.text(late, "reach (h=9999+200)*9");
        s.is("from the last hour on, the 201st", NONE, late.catches());
    }

    private void facedTerm() {
        s.holds(Sentences.TERMS, "FACED of a POST, for n: the SIDE with which CAUGHT is most behind n HOURS; of several the least.");
        int[][] ends = {{40, 0, 1, 8}, {40, 47, 32, 1}, {0, 40, 1, 8}, {47, 40, 32, 1}};
        for (int side = 0; side < 4; side++) {
            RoomWatch x = corridor(ends[side][0], ends[side][1], ends[side][2], ends[side][3]);
            x.turns(0, SLIT);
            s.is("a slit sees to " + side, side, x.faces(0, 10, 0));
            s.is("each hour", 10, x.faces(0, 10, 1));
        }
        s.is("all four alike", 0, boxed(STOOL, 3).faces(0, 10, 0));
        s.is("1 and 2 alike", 1, boxed(WEDGE, 2).faces(0, 10, 0));
        s.is("none", 0, boxed(SLIT, 2).faces(0, 10, 0));
        s.is("none are caught", 0, boxed(SLIT, 2).faces(0, 10, 1));
        RoomWatch y = boxed(STOOL, 0);
        y.hours(7);
        s.is("CAUGHT, with those before", 17, y.faces(0, 10, 1));
    }

    private void becomesTerm() {
        s.holds(Sentences.TERMS, "BECOMES of a POST, for n: the KIND as one of which CAUGHT is most behind n HOURS; of several the least.");
        String[] laws = {"reach 5", "reach 0", "reach (t=0)*9", "", "reach (t<11)*9", "reach (t<50)*9"};
        int[] sides = {0, 1, 0, 0, 0, 0}, most = {60, 60, 30, 0, 40, 50};
        for (int kind : new int[] {STOOL, WEDGE, LAMP, DOOR, DOZER}) {
            RoomWatch x = boxed(STOOL, sides[kind], laws[kind]);
            s.is("kind " + kind + " is best", kind, x.becomes(0, 60, 0));
            s.is("kind " + kind + " catches", most[kind], x.becomes(0, 60, 1));
        }
        RoomWatch slit = corridor(47, 40, 32, 1);
        slit.set(0, 2, 3);
        Due.text(slit, "reach 2");
        s.is("a slit is best", SLIT, slit.becomes(0, 60, 0));
        s.is("a slit catches", 60, slit.becomes(0, 60, 1));
        s.is("none: the least", STOOL, boxed(DOZER, 3, "reach 0").becomes(0, 60, 0));
        s.is("none", 0, boxed(DOZER, 3, "reach 0").becomes(0, 60, 1));
        RoomWatch y = boxed(DOZER, 0);
        y.hours(7);
        s.is("CAUGHT, with those before", 17, y.becomes(0, 10, 1));
    }

    private void likeTerm() {
        s.holds(Sentences.TERMS, "LIKE by a SHEET: the POST of which TIRED behind k HOURS and places k that are numbers (k from 0 on) differ least (signs left out), together; of several the least.");
        RoomWatch x = new RoomWatch();
        x.post(LAMP, 1, 0);
        x.post(STOOL, 2, 0);
        x.sheet(0, 1, 24);
        for (int k = 0; k < 24; k++) x.mark(0, k, Math.min(99, 5 * k));
        s.is("24 places: the stool", 1, x.like(0, 0));
        s.is("to the hour", 0, x.like(0, 1));
        x.mark(0, 23, 98);
        s.is("the last place is one less", 1, x.like(0, 1));
        x.mark(0, 23, 100);
        s.is("the last place is one more", 1, x.like(0, 1));
        x.mark(0, 0, -1);
        s.is("the first place is as it is now", 2, x.like(0, 1));
        x.mark(0, 0, NONE);
        x.mark(0, 23, NONE);
        s.is("no numbers do not count", 0, x.like(0, 1));
        for (int k = 0; k < 24; k++) x.mark(0, k, NONE);
        s.is("no number at all: the least", 0, x.like(0, 0));
        s.is("no differences", 0, x.like(0, 1));
        x.mark(0, 12, 0);
        s.is("the twelfth hour alone: the lamp", 0, x.like(0, 0));
        x.mark(0, 12, 30);
        s.is("30 from either: the least", 0, x.like(0, 0));
        x.mark(0, 12, 31);
        s.is("29 from the stool", 1, x.like(0, 0));
        s.is("so many", 29, x.like(0, 1));
        for (int k = 0; k < 24; k++) x.mark(0, k, -99999);
        s.is("as far off as may be: the lamp", 0, x.like(0, 0));
        s.is("all differences together", 24 * 99999 + 12 * 5, x.like(0, 1));
        x.sheet(1, 0, 1);
        x.mark(1, 0, 0x8000);
        s.is("the least short", 32768, x.like(1, 1));
        RoomWatch eight = new RoomWatch();
        for (int k = 0; k < 8; k++) {
            eight.post(STOOL, k, 0);
            eight.set(k, 3, 90 - 10 * k);
        }
        eight.sheet(0, 0, 1);
        s.is("the last of eight", 7, eight.like(0, 0));
        s.is("is 20 off", 20, eight.like(0, 1));
    }

    // ---- promises

    private void hours() {
        s.holds(21, "n (1 .. 100) HOURS (no more than up to 9999): by how much CAUGHT is more.");
        RoomWatch x = boxed(STOOL, 0);
        s.is("one", 1, x.hours(1));
        s.is("a hundred", 100, x.hours(100));
        s.is("so many are caught", 101, x.room(0));
        s.is("so many hours", 101, x.count(1));
        x.rule(0, 100);
        s.is("none", 0, x.hours(100));
        x.rule(0, 0);
        for (int k = 0; k < 97; k++) x.hours(100);
        s.is("up to 9999", 98, x.hours(98));
        s.is("it is", 9999, x.count(1));
        int z = x.count(7);
        int tired = x.told(0, 3);
        s.is("no more", 0, x.hours(1));
        s.is("not one of a hundred", 0, x.hours(100));
        s.is("no draws", z, x.count(7));
        s.is("nor is any more tired", tired, x.told(0, 3));
        s.leaves("hours", States.RICH, y -> y.hours(100), States.ROOM, States.TEXTS);
        s.leaves("no hour is left", LATE, y -> y.hours(100));
        for (int left = 1; left <= 3; left++) {
            RoomWatch y = boxed(STOOL, 0);
            for (int k = 0; k < 99; k++) y.hours(100);
            y.hours(99 - left);
            s.is("of 100 only " + left, left, y.hours(100));
            s.is("the last hour", 9999, y.count(1));
        }

        s.holds(21, "BAD.");
        for (States.Run state : new States.Run[] {States.BARE, States.RICH, LATE}) {
            for (int wrong : Sentences.outside(1, 100)) s.refuses("n " + wrong, BAD, state, y -> y.hours(wrong));
        }
    }

    private void room() {
        s.holds(22, "What is 0 CAUGHT, 1 UNSEEN, 2 where THE THIEF is, 3 those that are AWAKE, as a set, 4 TIRED of all, together, 5 how many WALLS there are.");
        RoomWatch x = boxed(STOOL, 0);
        x.hours(30);
        int[] told = {30, 0, 47, 1, 99, 2};
        for (int what = 0; what < 6; what++) s.is("room " + what, told[what], x.room(what));
        x.rule(0, 100);
        x.hours(1);
        s.is("unseen", 1, x.room(1));
        RoomWatch y = new RoomWatch();
        for (int cell = 1; cell < 48; cell++) y.wall(cell, 1);
        s.is("as many walls as may be", 47, y.room(5));
        y.wall(47, 0);
        s.is("one less", 46, y.room(5));
        RoomWatch eight = new RoomWatch();
        for (int k = 0; k < 8; k++) {
            eight.post(STOOL, k, 0);
            eight.set(k, 3, 99);
        }
        s.is("all are as tired as may be", 792, eight.room(4));
        s.is("all are awake", 255, eight.room(3));
        for (int what = 0; what < 6; what++) {
            int asked = what;
            s.quiet("room " + what, States.RICH, z -> z.room(asked));
        }

        s.holds(22, "BAD.");
        for (int wrong : Sentences.outside(0, 5)) {
            s.refuses("what " + wrong, BAD, States.RICH, z -> z.room(wrong));
            s.refuses("what " + wrong + ", nobody", BAD, States.BARE, z -> z.room(wrong));
        }
    }

    private void behind() {
        s.holds(23, "BEHIND n (0 .. 100) HOURS: what 0 CAUGHT, 1 UNSEEN, 2 where THE THIEF is, 3 those that are AWAKE, 4 TIRED of all; 5 and k: TIRED of POST k.");
        RoomWatch x = States.after(States.RICH);
        for (int what = 0; what < 5; what++) s.is("behind none, " + what, x.room(what), x.behind(0, what));
        for (int k = 0; k < 6; k++) s.is("behind none, tired of " + k, x.told(k, 3), x.behind(0, 5 + k));
        RoomWatch y = boxed(LAMP, 0);
        s.is("caught behind 100", 50, y.behind(100, 0));
        s.is("unseen behind 100", 50, y.behind(100, 1));
        s.is("the thief behind 100", 47, y.behind(100, 2));
        s.is("awake behind 99", 0, y.behind(99, 3));
        s.is("awake behind 100", 1, y.behind(100, 3));
        s.is("tired behind 99", 5, y.behind(99, 4));
        s.is("tired behind 100", 0, y.behind(100, 5));
        RoomWatch eight = new RoomWatch();
        for (int k = 0; k < 8; k++) {
            eight.post(STOOL, k, 0);
            eight.set(k, 3, 10 * k);
        }
        for (int k = 0; k < 8; k++) s.is("behind one, tired of " + k, 10 * k + 5, eight.behind(1, 5 + k));
        s.is("all are as tired as may be", 792, eight.behind(100, 4));

        s.holds(23, "BAD.");
        for (int wrong : Sentences.outside(0, 100)) s.refuses("n " + wrong, BAD, States.RICH, z -> z.behind(wrong, 0));
        for (int wrong : Sentences.outside(0, 10)) s.refuses("what " + wrong, BAD, States.RICH, z -> z.behind(1, wrong));
        for (int wrong : Sentences.outside(0, 12)) s.refuses("what " + wrong + " of eight", BAD, States.PACKED, z -> z.behind(1, wrong));
        for (int wrong : Sentences.outside(0, 4)) s.refuses("what " + wrong + ", nobody", BAD, States.BARE, z -> z.behind(0, wrong));
    }

    private void catches() {
        s.holds(24, "CATCHES.");
        s.is("the first", 1, boxed(STOOL, 0).catches());
        s.is("the last", 200, boxed(STOOL, 0, "reach (h=199)*9").catches());
        RoomWatch lamp = boxed(LAMP, 0);
        lamp.hours(1);
        s.is("when it is awake again", 2, lamp.catches());

        s.holds(24, "NONE: not by then.");
        s.refuses("nobody", NONE, States.BARE, RoomWatch::catches);
        s.is("one too late", NONE, boxed(STOOL, 0, "reach (h=200)*9").catches());
        RoomWatch lucky = boxed(STOOL, 0);
        lucky.rule(0, 100);
        s.is("luck", NONE, lucky.catches());
    }

    private void faces() {
        s.holds(25, "FACED of a POST, for n (1 .. 60): what 0 the SIDE, 1 CAUGHT.");
        s.is("for one, the side", 1, boxed(WEDGE, 3).faces(0, 1, 0));
        s.is("for one", 1, boxed(WEDGE, 3).faces(0, 1, 1));
        s.is("for sixty, the side", 1, boxed(WEDGE, 3).faces(0, 60, 0));
        s.is("for sixty", 60, boxed(WEDGE, 3).faces(0, 60, 1));
        RoomWatch eight = boxed(STOOL, 0, "reach 0");
        for (int k = 0; k < 6; k++) eight.post(STOOL, k, 0);
        eight.post(WEDGE, 45, 0);
        eight.wall(46, 0);
        eight.wall(38, 0);
        s.is("of the last of eight", 1, eight.faces(7, 1, 0));

        s.holds(25, "BAD.");
        for (int wrong : Sentences.outside(0, 5)) s.refuses("post " + wrong, BAD, States.RICH, x -> x.faces(wrong, 1, 0));
        for (int wrong : Sentences.outside(1, 60)) s.refuses("n " + wrong, BAD, States.RICH, x -> x.faces(0, wrong, 0));
        for (int wrong : Sentences.outside(0, 1)) s.refuses("what " + wrong, BAD, States.RICH, x -> x.faces(0, 1, wrong));
        s.refuses("no post at all", BAD, States.BARE, x -> x.faces(0, 1, 0));
        s.refuses("the ninth", BAD, States.PACKED, x -> x.faces(8, 1, 0));
    }

    private void becomes() {
        s.holds(26, "BECOMES of a POST, for n (1 .. 60): what 0 the KIND, 1 CAUGHT.");
        s.is("for one, the kind", WEDGE, boxed(LAMP, 1, "reach 0").becomes(0, 1, 0));
        s.is("for one", 1, boxed(LAMP, 1, "reach 0").becomes(0, 1, 1));
        s.is("for sixty, the kind", WEDGE, boxed(LAMP, 1, "reach 0").becomes(0, 60, 0));
        s.is("for sixty", 60, boxed(LAMP, 1, "reach 0").becomes(0, 60, 1));
        RoomWatch eight = new RoomWatch();
        for (int k = 0; k < 7; k++) eight.post(STOOL, k, 0);
        eight.post(STOOL, 38, 1);
        eight.thief(47);
        eight.wall(46, 1);
        eight.wall(39, 1);
        eight.rule(0, 0);
        Due.text(eight, "reach 0");
        s.is("of the last of eight", WEDGE, eight.becomes(7, 1, 0));
        s.is("of the first of eight none", 0, eight.becomes(0, 1, 1));

        s.holds(26, "BAD.");
        for (int wrong : Sentences.outside(0, 5)) s.refuses("post " + wrong, BAD, States.RICH, x -> x.becomes(wrong, 1, 0));
        for (int wrong : Sentences.outside(1, 60)) s.refuses("n " + wrong, BAD, States.RICH, x -> x.becomes(0, wrong, 0));
        for (int wrong : Sentences.outside(0, 1)) s.refuses("what " + wrong, BAD, States.RICH, x -> x.becomes(0, 1, wrong));
        s.refuses("no post at all", BAD, States.BARE, x -> x.becomes(0, 1, 0));
        s.refuses("the ninth", BAD, States.PACKED, x -> x.becomes(8, 1, 0));
    }

    private void like() {
        s.holds(27, "LIKE by a SHEET: what 0 the POST, 1 the differences, together.");
        RoomWatch x = with(STOOL, 0, 0);
        x.set(0, 3, 99);
        for (int sheet = 0; sheet < 4; sheet += 3) {
            x.sheet(sheet, sheet / 3, 0);
            s.is("a row of none, the post", 0, x.like(sheet, 0));
            s.is("a row of none", 0, x.like(sheet, 1));
            x.sheet(sheet, sheet / 3, 2);
            s.is("99 twice", 198, x.like(sheet, 1));
        }

        s.holds(27, "BAD;");
        for (int wrong : Sentences.outside(0, 3)) s.refuses("sheet " + wrong, BAD, States.RICH, y -> y.like(wrong, 0));
        for (int wrong : Sentences.outside(0, 1)) {
            s.refuses("what " + wrong, BAD, States.RICH, y -> y.like(0, wrong));
            s.refuses("ahead of NOTHING, what " + wrong, BAD, States.RICH, y -> y.like(3, wrong));
            s.refuses("ahead of NOTHING and NONE, what " + wrong, BAD, States.BARE, y -> y.like(3, wrong));
        }

        s.holds(27, "NOTHING;");
        s.refuses("missing", NOTHING, States.RICH, y -> y.like(3, 0));
        s.refuses("missing, 1", NOTHING, States.RICH, y -> y.like(3, 1));
        s.refuses("ahead of NONE", NOTHING, States.BARE, y -> y.like(0, 0));

        s.holds(27, "NONE: there are no POSTS.");
        States.Run sheet = y -> y.sheet(2, 1, 24);
        s.refuses("nobody", NONE, sheet, y -> y.like(2, 0));
        s.refuses("nobody, 1", NONE, sheet, y -> y.like(2, 1));
    }

    private void fee() {
        s.holds(28, "What fee gives.");
        RoomWatch x = boxed(STOOL, 3);
        s.is("nothing was", 0, x.fee());
        x.hours(6);
        x.rule(0, 100);
        x.hours(4);
        s.is("without a text", 6, x.fee());
        Due.text(x, "fee u*100+c");
        s.is("by a text", 406, x.fee());
        Due.text(x, "reach 7");
        Due.text(x, "fine 8");
        s.is("whatever other texts there are", 406, x.fee());
        Due.text(x, "fee 0-c");
        s.is("below 0", -6, x.fee());
        s.quiet("fee", States.RICH, RoomWatch::fee);
    }

    private void fine() {
        s.holds(29, "What fine gives for a POST.");
        RoomWatch x = new RoomWatch();
        for (int k = 0; k < 8; k++) {
            x.post(STOOL, 47 - k, k % 4);
            x.set(k, 3, 99 - k);
        }
        for (int k = 0; k < 8; k++) s.is("without a text " + k, k % 4, x.fine(k));
        Due.text(x, "fine t*100+c");
        for (int k = 0; k < 8; k++) s.is("by a text " + k, 9947 - 101 * k, x.fine(k));
        Due.text(x, "fee 1");
        Due.text(x, "reach 1");
        s.is("whatever other texts there are", 9947, x.fine(0));
        s.quiet("fine", States.RICH, y -> y.fine(5));

        s.holds(29, "BAD.");
        for (int wrong : Sentences.outside(0, 5)) s.refuses("post " + wrong, BAD, States.RICH, y -> y.fine(wrong));
        s.refuses("no post at all", BAD, States.BARE, y -> y.fine(0));
        s.refuses("the ninth", BAD, States.PACKED, y -> y.fine(8));
    }
}
