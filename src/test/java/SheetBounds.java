/** Boundary cases of sheets and slots: the terms' fifth part, promises 35 to 43. */
final class SheetBounds {
    private static final int BAD = Sentences.BAD, NO = Sentences.NO, NONE = Sentences.NONE,
        NOTHING = Sentences.NOTHING, KIND = Sentences.KIND, INDEX = Sentences.INDEX, SIZE = Sentences.SIZE;
    private static final int MIN = Sentences.MIN, MAX = Sentences.MAX;
    private static final int STOOL = 0, WEDGE = 1, LAMP = 2, SLIT = 3, DOOR = 4, DOZER = 5;
    private static final int SHORTS = 0, FLOATS = 1;

    private final Sentences s;

    private SheetBounds(Sentences s) {
        this.s = s;
    }

    static void run(Sentences s) {
        SheetBounds all = new SheetBounds(s);
        all.sheetsThereAre();
        all.slotsThereAre();
        all.findings();
        all.sheet();
        all.mark();
        all.pour();
        all.reads();
        all.copy();
        all.lay();
        all.ask();
        all.item();
        all.rest();
    }

    private static RoomWatch row(int sort, int... places) {
        RoomWatch x = new RoomWatch();
        x.sheet(0, sort, places.length);
        for (int k = 0; k < places.length; k++) x.mark(0, k, places[k]);
        return x;
    }

    private static int place(RoomWatch x, int sheet, int place) {
        x.lay(4, 2, sheet);
        return x.item(4, place);
    }

    private void places(String call, RoomWatch x, int sheet, int... want) {
        for (int k = 0; k < want.length; k++) s.is(call + ", place " + k, want[k], place(x, sheet, k));
        s.is(call + ", no place behind the last", INDEX, place(x, sheet, want.length));
    }

    // ---- 5 SHEETS, SLOTS

    private void sheetsThereAre() {
        s.holds(Sentences.TERMS, "SHEETS 0 .. 3 are rows of shorts (sort 0) or floats (1; whole numbers), with 0 to 24 places, or MISSING (at first).");
        RoomWatch x = new RoomWatch();
        for (int sheet = 0; sheet < 4; sheet++) s.is("at first " + sheet, NOTHING, x.mark(sheet, 0, 0));
        for (int wrong : Sentences.outside(0, 3)) s.is("sheet " + wrong, BAD, x.sheet(wrong, 0, 1));
        for (int sheet = 0; sheet < 4; sheet++) {
            for (int sort = 0; sort < 2; sort++) {
                s.is("no places", 0, x.sheet(sheet, sort, 0));
                s.is("none is the first", INDEX, x.mark(sheet, 0, 0));
                s.is("24 places", 24, x.sheet(sheet, sort, 24));
                s.is("the last", 1, x.mark(sheet, 23, 5));
                s.is("one behind it", INDEX, x.mark(sheet, 24, 5));
                s.is("25 places", BAD, x.sheet(sheet, sort, 25));
            }
        }
        s.is("sort below", BAD, x.sheet(0, -2, 1));
        s.is("sort above", BAD, x.sheet(0, 2, 1));
        s.is("a short goes round", -32768, place(row(SHORTS, 32768), 0, 0));
        s.is("a float does not", 32768, place(row(FLOATS, 32768), 0, 0));

        s.holds(Sentences.TERMS, "A place of floats may be NO NUMBER.");
        s.is("of floats", KIND, place(row(FLOATS, NONE), 0, 0));
        s.is("not of shorts", KIND, row(SHORTS, 0).mark(0, 0, NONE));
        s.is("a short that is refused stays", 9, place(row(SHORTS, 9, NONE), 0, 0));
    }

    private void slotsThereAre() {
        s.holds(Sentences.TERMS, "SLOTS 0 .. 4 each hold nothing (at first), a POST (as it is then, for good), a SHEET (a row of its own, as it was then), or a number.");
        RoomWatch x = row(FLOATS, 1, NONE, 3);
        x.post(SLIT, 5, 0);
        x.set(0, 3, 6);
        for (int slot = 0; slot < 5; slot++) s.is("at first " + slot, 0, x.lay(slot, 0, 0));
        for (int wrong : Sentences.outside(0, 4)) s.is("slot " + wrong, BAD, x.lay(wrong, 0, 0));
        x.lay(0, 1, 0);
        x.lay(1, 2, 0);
        x.lay(2, 2, 0);
        x.lay(3, 3, MAX);
        x.keep();
        x.set(0, 3, 99);
        x.turns(0, LAMP);
        x.moves(0, 6);
        x.mark(0, 0, 7);
        x.mark(0, 1, 8);
        x.hours(5);
        s.is("a post as it was", 20, x.ask(0, SLIT));
        s.is("of the kind that it was", 20, x.ask(0, WEDGE));
        s.is("not of that which it is", KIND, x.ask(0, LAMP));
        s.is("a sheet as it was", 1, x.item(1, 0));
        s.is("with no number where it was", KIND, x.item(1, 1));
        x.sheet(0, -1, 0);
        s.is("though it is missing now", 3, x.item(1, 2));
        x.sheet(0, SHORTS, 24);
        s.is("or a longer one", INDEX, x.item(2, 3));
        x.back();
        s.is("back takes nothing out of a slot", 3, x.item(2, 2));
        s.is("nor the number", 0, x.rest(3, MAX));
        s.is("nor what a post was", 20, x.ask(0, SLIT));
        x.lay(1, 0, 0);
        s.is("each slot by itself", 3, x.item(2, 2));
    }

    private void findings() {
        s.holds(Sentences.TERMS, "FINDINGS: NOTHING: a SHEET is MISSING, a SLOT holds nothing;");
        s.refuses("a missing sheet, mark", NOTHING, States.RICH, x -> x.mark(3, 0, 0));
        s.refuses("a missing sheet, pour", NOTHING, States.RICH, x -> x.pour(3));
        s.refuses("a missing sheet, reads", NOTHING, States.RICH, x -> x.reads(3));
        s.refuses("a missing sheet, lay", NOTHING, States.RICH, x -> x.lay(1, 2, 3));
        s.refuses("an empty slot, ask", NOTHING, States.RICH, x -> x.ask(4, 0));
        s.refuses("an empty slot, item", NOTHING, States.RICH, x -> x.item(4, 0));
        s.refuses("an empty slot, rest", NOTHING, States.RICH, x -> x.rest(4, 1));
        s.is("a row of no places is not missing", NONE, States.after(States.RICH).reads(2));

        s.holds(Sentences.TERMS, "INDEX: there is no such place;");
        s.refuses("ahead of the first", INDEX, States.RICH, x -> x.mark(0, -1, 0));
        s.refuses("behind the last", INDEX, States.RICH, x -> x.mark(0, 3, 0));
        s.refuses("in a row of none", INDEX, States.RICH, x -> x.mark(2, 0, 0));

        s.holds(Sentences.TERMS, "SIZE: a number of places is below 0;");
        s.refuses("below 0", SIZE, States.RICH, x -> x.sheet(0, 0, -1));

        s.holds(Sentences.TERMS, "KIND: it is none (of a KIND, a number, or another thing).");
        s.refuses("no such post", KIND, States.RICH, x -> x.as(0, 1));
        s.refuses("no number among shorts", KIND, States.RICH, x -> x.mark(0, 0, NONE));
        s.refuses("a number is no post", KIND, States.RICH, x -> x.ask(3, 0));
        s.refuses("a number is no sheet", KIND, States.RICH, x -> x.item(3, 0));
        s.refuses("a post is no number", KIND, States.RICH, x -> x.rest(1, 1));
    }

    // ---- promises

    private void sheet() {
        s.holds(35, "A SHEET becomes a row of n places of a sort, all 0 (sort -1: MISSING, n any): n (0).");
        for (int sort = 0; sort < 2; sort++) {
            for (int n : new int[] {0, 1, 23, 24}) {
                RoomWatch x = new RoomWatch();
                x.sheet(3, 1 - sort, 24);
                for (int k = 0; k < 24; k++) x.mark(3, k, 7);
                s.is(n + " of sort " + sort, n, x.sheet(3, sort, n));
                places(n + " of sort " + sort, x, 3, new int[n]);
                s.is("its sort", sort == SHORTS ? n > 0 ? KIND : INDEX : n > 0 ? 1 : INDEX, x.mark(3, 0, NONE));
            }
        }
        RoomWatch none = row(FLOATS, NONE, NONE);
        none.sheet(0, FLOATS, 2);
        places("numbers again", none, 0, 0, 0);
        for (int n : new int[] {0, 5, -1, 24, 25, MIN, MAX}) {
            RoomWatch x = row(SHORTS, 1, 2);
            s.is("missing, " + n, 0, x.sheet(0, -1, n));
            s.is("it is", NOTHING, x.mark(0, 0, 0));
            s.is("missing again, " + n, 0, x.sheet(0, -1, n));
        }
        RoomWatch beside = row(SHORTS, 1, 2);
        beside.sheet(1, FLOATS, 3);
        places("another one stays", beside, 0, 1, 2);
        s.leaves("sheet", States.RICH, x -> x.sheet(0, 1, 4), States.SHEETS);
        s.leaves("missing", States.RICH, x -> x.sheet(1, -1, 4), States.SHEETS);

        s.holds(35, "BAD: sheet, sort, n above 24;");
        for (int wrong : Sentences.outside(0, 3)) {
            s.refuses("sheet " + wrong, BAD, States.RICH, x -> x.sheet(wrong, 0, 1));
            s.refuses("sheet " + wrong + " to missing", BAD, States.RICH, x -> x.sheet(wrong, -1, 1));
            s.refuses("ahead of SIZE, sheet " + wrong, BAD, States.RICH, x -> x.sheet(wrong, 0, -1));
        }
        for (int wrong : Sentences.outside(-1, 1)) {
            s.refuses("sort " + wrong, BAD, States.RICH, x -> x.sheet(0, wrong, 1));
            s.refuses("ahead of SIZE, sort " + wrong, BAD, States.RICH, x -> x.sheet(0, wrong, -1));
        }
        for (int wrong : new int[] {25, 26, MAX}) {
            s.refuses("shorts " + wrong, BAD, States.RICH, x -> x.sheet(0, 0, wrong));
            s.refuses("floats " + wrong, BAD, States.PACKED, x -> x.sheet(3, 1, wrong));
        }

        s.holds(35, "SIZE.");
        for (int wrong : new int[] {-1, -2, -24, -25, MIN, NONE}) {
            s.refuses("shorts " + wrong, SIZE, States.RICH, x -> x.sheet(0, 0, wrong));
            s.refuses("floats " + wrong, SIZE, States.RICH, x -> x.sheet(3, 1, wrong));
        }
    }

    private void mark() {
        s.holds(36, "A place of a SHEET becomes v (of shorts its lowest 16 bits; of floats v, -99999 .. 99999; NONE: NO NUMBER): 1.");
        int[][] shorts = {{0, 0}, {32767, 32767}, {32768, -32768}, {65535, -1}, {65536, 0}, {65537, 1}, {-1, -1}, {-32768, -32768},
            {-32769, 32767}, {-65536, 0}, {MIN, 0}, {MAX, -1}, {99999, -31073}, {-99999, 31073}, {100000, -31072},
            {NONE - 1, (short) (NONE - 1)}, {NONE + 1, (short) (NONE + 1)}, {BAD, (short) BAD}};
        for (int[] t : shorts) {
            RoomWatch x = row(SHORTS, 3, 3, 3);
            s.is("short " + t[0], 1, x.mark(0, 1, t[0]));
            places("short " + t[0], x, 0, 3, t[1], 3);
        }
        for (int v : new int[] {-99999, -99998, -1, 0, 1, 32768, 99998, 99999}) {
            RoomWatch x = row(FLOATS, 3, 3, 3);
            s.is("float " + v, 1, x.mark(0, 1, v));
            places("float " + v, x, 0, 3, v, 3);
        }
        RoomWatch x = row(FLOATS, 3, 3, 3);
        s.is("no number", 1, x.mark(0, 1, NONE));
        places("no number", x, 0, 3, KIND, 3);
        s.is("no number again", 1, x.mark(0, 1, NONE));
        s.is("a number again", 1, x.mark(0, 1, 4));
        places("a number again", x, 0, 3, 4, 3);
        RoomWatch longest = row(FLOATS, new int[24]);
        s.is("the first place", 1, longest.mark(0, 0, 1));
        s.is("the last place", 1, longest.mark(0, 23, 2));
        s.is("the first is", 1, place(longest, 0, 0));
        s.is("the last is", 2, place(longest, 0, 23));
        s.leaves("mark", States.RICH, y -> y.mark(1, 0, 4), States.SHEETS);

        s.holds(36, "BAD: sheet;");
        for (int wrong : Sentences.outside(0, 3)) {
            s.refuses("sheet " + wrong, BAD, States.RICH, y -> y.mark(wrong, 0, 0));
            s.refuses("ahead of all, sheet " + wrong, BAD, States.BARE, y -> y.mark(wrong, -1, NONE));
        }

        s.holds(36, "NOTHING;");
        s.refuses("missing", NOTHING, States.RICH, y -> y.mark(3, 0, 0));
        s.refuses("ahead of INDEX", NOTHING, States.RICH, y -> y.mark(3, -1, 0));
        s.refuses("ahead of KIND", NOTHING, States.RICH, y -> y.mark(3, 0, NONE));
        s.refuses("ahead of BAD", NOTHING, States.RICH, y -> y.mark(3, 0, MAX));

        s.holds(36, "INDEX;");
        int[] sizes = {3, 5, 0};
        for (int sheet = 0; sheet < 3; sheet++) {
            int each = sheet;
            for (int wrong : Sentences.outside(0, sizes[sheet] - 1)) {
                s.refuses("place " + wrong, INDEX, States.RICH, y -> y.mark(each, wrong, 1));
                s.refuses("ahead of KIND, place " + wrong, INDEX, States.RICH, y -> y.mark(each, wrong, NONE));
                s.refuses("ahead of BAD, place " + wrong, INDEX, States.RICH, y -> y.mark(each, wrong, 100000));
            }
        }
        for (int wrong : Sentences.outside(0, 23)) s.refuses("place " + wrong + " of 24", INDEX, States.PACKED, y -> y.mark(0, wrong, 1));

        s.holds(36, "KIND: NONE in a row of shorts;");
        for (int k = 0; k < 3; k++) {
            int each = k;
            s.refuses("place " + k, KIND, States.RICH, y -> y.mark(0, each, NONE));
        }

        s.holds(36, "BAD: v of floats.");
        for (int wrong : new int[] {-100000, 100000, MIN, MAX, NONE - 1, NONE + 1, BAD, KIND}) {
            s.refuses("v " + wrong, BAD, States.RICH, y -> y.mark(1, 0, wrong));
            s.refuses("v " + wrong + " for no number", BAD, States.RICH, y -> y.mark(1, 2, wrong));
        }
    }

    private static RoomWatch crowd(int posts) {
        RoomWatch x = new RoomWatch();
        for (int k = 0; k < posts; k++) {
            x.post(STOOL, 40 + k, 0);
            x.set(k, 3, 50);
        }
        return x;
    }

    private void pour() {
        s.holds(37, "TIRED of POSTS, by numbers, becomes the places of a SHEET from 0 on (each held within 0 .. 99; NO NUMBER, and beyond the SHEET: it stays): how many are otherwise then.");
        RoomWatch x = crowd(8);
        int[] from = {-1, 0, 1, 98, 99, 100, NONE, 50}, to = {0, 0, 1, 98, 99, 99, 50, 50};
        x.sheet(0, FLOATS, 8);
        for (int k = 0; k < 8; k++) x.mark(0, k, from[k]);
        s.is("six are otherwise", 6, x.pour(0));
        for (int k = 0; k < 8; k++) s.is("tired of " + k, to[k], x.told(k, 3));
        s.is("none again", 0, x.pour(0));
        RoomWatch y = crowd(3);
        y.sheet(1, FLOATS, 2);
        y.mark(1, 0, -99999);
        y.mark(1, 1, 99999);
        s.is("beyond the sheet it stays", 2, y.pour(1));
        int[] three = {0, 99, 50};
        for (int k = 0; k < 3; k++) s.is("tired of " + k, three[k], y.told(k, 3));
        y.sheet(1, SHORTS, 24);
        for (int k = 0; k < 24; k++) y.mark(1, k, k == 0 ? 32768 : 32767);
        s.is("a sheet beyond the posts", 1, y.pour(1));
        s.is("the least short", 0, y.told(0, 3));
        s.is("the greatest short", 99, y.told(2, 3));
        y.sheet(1, SHORTS, 0);
        s.is("a row of none", 0, y.pour(1));
        y.sheet(1, FLOATS, 3);
        for (int k = 0; k < 3; k++) y.mark(1, k, NONE);
        s.is("no number at all", 0, y.pour(1));
        s.is("nobody", 0, row(SHORTS, 1, 2).pour(0));
        s.is("the sheet stays", -1, place(x, 0, 0));
        s.leaves("pour", States.RICH, z -> z.pour(1), States.ROOM, States.TEXTS);

        s.holds(37, "BAD;");
        for (int wrong : Sentences.outside(0, 3)) s.refuses("sheet " + wrong, BAD, States.RICH, z -> z.pour(wrong));

        s.holds(37, "NOTHING.");
        s.refuses("missing", NOTHING, States.RICH, z -> z.pour(3));
        s.refuses("missing, nobody", NOTHING, States.BARE, z -> z.pour(0));
    }

    private void reads() {
        s.holds(38, "The first place (of numbers alone) at which a SHEET is not CELL of that POST (of places that are no POST all numbers are not).");
        for (int wrong = 0; wrong < 8; wrong++) {
            RoomWatch x = crowd(8);
            x.sheet(3, FLOATS, 8);
            for (int k = 0; k < 8; k++) x.mark(3, k, k >= wrong ? 39 + k : 40 + k);
            s.is("one less from " + wrong + " on", wrong, x.reads(3));
            x.mark(3, wrong, NONE);
            s.is("no number there", wrong < 7 ? wrong + 1 : NONE, x.reads(3));
        }
        RoomWatch x = crowd(2);
        x.sheet(0, FLOATS, 24);
        x.mark(0, 0, 40);
        x.mark(0, 1, 41);
        s.is("a place that is no post", 2, x.reads(0));
        for (int k = 2; k < 23; k++) x.mark(0, k, NONE);
        s.is("the last place", 23, x.reads(0));
        s.is("nobody", 0, row(SHORTS, 0).reads(0));
        RoomWatch round = crowd(1);
        round.sheet(0, SHORTS, 1);
        round.mark(0, 0, 65536 + 40);
        s.is("a short that went round", NONE, round.reads(0));
        s.quiet("reads", States.RICH, y -> y.reads(1));

        s.holds(38, "BAD;");
        for (int wrong : Sentences.outside(0, 3)) s.refuses("sheet " + wrong, BAD, States.RICH, y -> y.reads(wrong));

        s.holds(38, "NOTHING;");
        s.refuses("missing", NOTHING, States.RICH, y -> y.reads(3));
        s.refuses("missing, nobody", NOTHING, States.BARE, y -> y.reads(0));

        s.holds(38, "NONE: there is none.");
        s.refuses("a row of none", NONE, States.RICH, y -> y.reads(2));
        RoomWatch all = crowd(8);
        all.sheet(0, SHORTS, 8);
        for (int k = 0; k < 8; k++) all.mark(0, k, 40 + k);
        s.is("all eight", NONE, all.reads(0));
        all.sheet(0, SHORTS, 3);
        for (int k = 0; k < 3; k++) all.mark(0, k, 40 + k);
        s.is("fewer places than posts", NONE, all.reads(0));
        all.sheet(0, FLOATS, 24);
        for (int k = 0; k < 24; k++) all.mark(0, k, NONE);
        s.is("no number at all", NONE, all.reads(0));
    }

    private static RoomWatch rows() {
        RoomWatch x = row(FLOATS, 10, 11, NONE, 13, 14, 15);
        x.sheet(1, FLOATS, 4);
        for (int k = 0; k < 4; k++) x.mark(1, k, 1 + k);
        x.sheet(2, SHORTS, 6);
        return x;
    }

    private void copy() {
        s.holds(39, "So many places of a SHEET come to another one (or the same), as they were: many.");
        RoomWatch x = rows();
        s.is("all of the lesser one", 4, x.copy(0, 0, 1, 0, 4));
        places("all of the lesser one", x, 1, 10, 11, KIND, 13);
        x = rows();
        s.is("the last to the last", 4, x.copy(0, 2, 1, 0, 4));
        places("the last to the last", x, 1, KIND, 13, 14, 15);
        places("where they come from", x, 0, 10, 11, KIND, 13, 14, 15);
        x = rows();
        s.is("one", 1, x.copy(0, 5, 1, 3, 1));
        places("one", x, 1, 1, 2, 3, 15);
        x = rows();
        s.is("a number over no number", 1, x.copy(1, 0, 0, 2, 1));
        places("a number over no number", x, 0, 10, 11, 1, 13, 14, 15);
        x = rows();
        s.is("the same, upwards", 5, x.copy(0, 0, 0, 1, 5));
        places("the same, upwards", x, 0, 10, 10, 11, KIND, 13, 14);
        x = rows();
        s.is("the same, downwards", 5, x.copy(0, 1, 0, 0, 5));
        places("the same, downwards", x, 0, 11, KIND, 13, 14, 15, 15);
        x = rows();
        s.is("the same, all", 6, x.copy(0, 0, 0, 0, 6));
        places("the same, all", x, 0, 10, 11, KIND, 13, 14, 15);
        for (int[] none : new int[][] {{0, 0}, {6, 4}, {6, 0}, {0, 4}}) {
            x = rows();
            s.is("none, behind the last one, too", 0, x.copy(0, none[0], 1, none[1], 0));
            places("none", x, 1, 1, 2, 3, 4);
        }
        x.sheet(3, FLOATS, 0);
        s.is("none of a row of none", 0, x.copy(3, 0, 3, 0, 0));
        x.sheet(0, SHORTS, 24);
        x.sheet(3, SHORTS, 24);
        for (int k = 0; k < 24; k++) x.mark(0, k, k);
        s.is("24", 24, x.copy(0, 0, 3, 0, 24));
        for (int k = 0; k < 24; k++) s.is("24, place " + k, k, place(x, 3, k));
        s.leaves("copy", States.PACKED, y -> y.copy(0, 0, 1, 0, 24), States.SHEETS);
        s.leaves("copy of none", States.RICH, y -> y.copy(0, 3, 0, 0, 0));
        s.leaves("copy to the same place", States.RICH, y -> y.copy(1, 0, 1, 0, 5));

        s.holds(39, "BAD;");
        for (int wrong : Sentences.outside(0, 3)) {
            s.refuses("from " + wrong, BAD, States.RICH, y -> y.copy(wrong, 0, 0, 0, 1));
            s.refuses("to " + wrong, BAD, States.RICH, y -> y.copy(0, 0, wrong, 0, 1));
            s.refuses("ahead of NOTHING, from " + wrong, BAD, States.RICH, y -> y.copy(wrong, -1, 3, -1, -1));
            s.refuses("ahead of NOTHING, to " + wrong, BAD, States.RICH, y -> y.copy(3, -1, wrong, -1, -1));
        }

        s.holds(39, "NOTHING;");
        s.refuses("from", NOTHING, States.RICH, y -> y.copy(3, 0, 0, 0, 0));
        s.refuses("to", NOTHING, States.RICH, y -> y.copy(0, 0, 3, 0, 0));
        s.refuses("both", NOTHING, States.RICH, y -> y.copy(3, 0, 3, 0, 0));
        s.refuses("ahead of INDEX", NOTHING, States.RICH, y -> y.copy(1, -1, 3, 0, -1));

        s.holds(39, "KIND: they are not of one sort;");
        s.refuses("shorts to floats", KIND, States.RICH, y -> y.copy(0, 0, 1, 0, 1));
        s.refuses("floats to shorts", KIND, States.RICH, y -> y.copy(1, 0, 0, 0, 1));
        s.refuses("none of them", KIND, States.RICH, y -> y.copy(0, 0, 2, 0, 0));
        s.refuses("ahead of INDEX", KIND, States.RICH, y -> y.copy(0, -1, 1, 99, -1));

        s.holds(39, "INDEX (also if many is below 0).");
        int[][] not = {{-1, 0, 1}, {0, -1, 1}, {3, 0, 1}, {0, 3, 1}, {0, 0, 4}, {1, 0, 3}, {0, 1, 3}, {0, 0, -1}, {3, 3, -1}, {4, 0, 0}, {0, 4, 0},
            {-1, 0, 0}, {0, -1, 0}, {1, 1, MAX}, {MAX, 0, 1}, {0, MAX, 1}, {MAX, MAX, MAX}, {MIN, 0, 0}, {0, MIN, 0}, {0, 0, MIN}, {MIN, MIN, MIN},
            {MAX, 0, MIN}, {-1, -1, 2}};
        for (int[] t : not) s.refuses(t[0] + ", " + t[1] + ", " + t[2], INDEX, States.RICH, y -> y.copy(0, t[0], 0, t[1], t[2]));
        s.refuses("the other one is shorter", INDEX, States.RICH, y -> y.copy(1, 0, 2, 0, 1));
        s.refuses("this one is shorter", INDEX, States.RICH, y -> y.copy(2, 0, 1, 0, 1));
        s.refuses("25 of 24", INDEX, States.PACKED, y -> y.copy(0, 0, 1, 0, 25));
        s.refuses("24 from the second", INDEX, States.PACKED, y -> y.copy(0, 1, 1, 0, 24));

        s.holds(39, "(From a SHEET, its place, to a SHEET, its place.)");
        x = rows();
        s.is("place 3 to place 1", 2, x.copy(0, 3, 1, 1, 2));
        places("place 3 to place 1", x, 1, 1, 13, 14, 4);
        places("it is not taken away", x, 0, 10, 11, KIND, 13, 14, 15);
    }

    private void lay() {
        s.holds(40, "A SLOT holds: thing 0 nothing, 1 POST k, 2 SHEET k, 3 the number k: what it held (0 .. 3).");
        for (int slot = 0; slot < 5; slot += 4) {
            RoomWatch x = States.after(States.PACKED);
            x.lay(slot, 0, 0);
            int held = 0;
            for (int thing : new int[] {0, 1, 1, 2, 2, 3, 3, 0, 2, 1, 3, 1, 0, 3, 2, 0}) {
                s.is("slot " + slot + " to " + thing, held, x.lay(slot, thing, 1));
                held = thing;
            }
        }
        RoomWatch x = States.after(States.PACKED);
        s.is("the last post", 1, x.lay(0, 1, 7));
        s.is("the last sheet", 2, x.lay(1, 2, 3));
        for (int thing = 0; thing < 4; thing++) {
            int each = thing;
            s.leaves("lay " + thing, States.RICH, y -> y.lay(2, each, 0), States.SLOTS);
        }
        for (int k : new int[] {MIN, -1, 0, 8, MAX, NONE, BAD}) {
            x.lay(2, 0, 0);
            s.is("nothing, k " + k, 0, x.lay(2, 0, k));
            s.is("the number " + k, 0, x.lay(2, 3, k));
            s.is("is " + k, k == MIN ? 0 : k % MAX, x.rest(2, k == MIN ? MIN : MAX));
        }

        s.holds(40, "BAD: slot, thing, k;");
        for (int wrong : Sentences.outside(0, 4)) {
            for (int thing = 0; thing < 4; thing++) {
                int each = thing;
                s.refuses("slot " + wrong + ", thing " + thing, BAD, States.RICH, y -> y.lay(wrong, each, 0));
            }
            s.refuses("ahead of NOTHING, slot " + wrong, BAD, States.RICH, y -> y.lay(wrong, 2, 3));
        }
        for (int wrong : Sentences.outside(0, 3)) {
            s.refuses("thing " + wrong, BAD, States.RICH, y -> y.lay(1, wrong, 0));
            s.refuses("sheet " + wrong, BAD, States.RICH, y -> y.lay(1, 2, wrong));
        }
        for (int wrong : Sentences.outside(0, 5)) s.refuses("post " + wrong, BAD, States.RICH, y -> y.lay(2, 1, wrong));
        s.refuses("no post at all", BAD, States.BARE, y -> y.lay(0, 1, 0));
        s.refuses("the ninth post", BAD, States.PACKED, y -> y.lay(0, 1, 8));

        s.holds(40, "NOTHING: that SHEET is MISSING.");
        for (int slot = 0; slot < 5; slot++) {
            int each = slot;
            s.refuses("slot " + slot, NOTHING, States.RICH, y -> y.lay(each, 2, 3));
            s.refuses("slot " + slot + " of a new object", NOTHING, States.BARE, y -> y.lay(each, 2, 0));
        }
        s.is("a row of none is not", 0, States.after(States.RICH).lay(0, 2, 2));
    }

    private void ask() {
        s.holds(41, "WORTH of the POST in a SLOT, taken for one of a KIND (0 .. 5).");
        int[] fresh = {0, 4, 99, 8, 93, 3}, tired = {99, 103, 0, 206, -6, 3};
        for (int kind = 0; kind < 6; kind++) {
            RoomWatch x = new RoomWatch();
            x.post(kind, 0, 0);
            x.lay(0, 1, 0);
            s.is("not tired, kind " + kind, fresh[kind], x.ask(0, kind));
            s.is("not tired, for a stool, kind " + kind, fresh[kind], x.ask(0, STOOL));
            x.set(0, 3, 99);
            s.is("as it was then, kind " + kind, fresh[kind], x.ask(0, kind));
            x.lay(4, 1, 0);
            s.is("of 99, kind " + kind, tired[kind], x.ask(4, kind));
            s.is("of 99, for a stool, kind " + kind, tired[kind], x.ask(4, STOOL));
        }
        s.quiet("ask", States.RICH, x -> x.ask(1, 1));

        s.holds(41, "BAD;");
        for (int wrong : Sentences.outside(0, 4)) s.refuses("slot " + wrong, BAD, States.RICH, x -> x.ask(wrong, 0));
        for (int wrong : Sentences.outside(0, 5)) {
            for (int slot = 0; slot < 4; slot++) {
                int each = slot;
                s.refuses("kind " + wrong + ", slot " + slot, BAD, States.RICH, x -> x.ask(each, wrong));
            }
        }

        s.holds(41, "NOTHING;");
        for (int kind = 0; kind < 6; kind++) {
            int each = kind;
            s.refuses("kind " + kind, NOTHING, States.RICH, x -> x.ask(0, each));
            s.refuses("kind " + kind + " of a new object", NOTHING, States.BARE, x -> x.ask(4, each));
        }

        s.holds(41, "KIND: it is no POST, or not of that KIND, nor of one under it.");
        for (int kind = 0; kind < 6; kind++) {
            int each = kind;
            s.refuses("a sheet as " + kind, KIND, States.RICH, x -> x.ask(2, each));
            s.refuses("a number as " + kind, KIND, States.RICH, x -> x.ask(3, each));
        }
        for (int kind : new int[] {LAMP, DOOR, DOZER}) s.refuses("a slit as " + kind, KIND, States.RICH, x -> x.ask(1, kind));
        RoomWatch stool = new RoomWatch();
        stool.post(STOOL, 0, 0);
        stool.lay(0, 1, 0);
        for (int kind = 1; kind < 6; kind++) s.is("a stool as " + kind, KIND, stool.ask(0, kind));
    }

    private void item() {
        s.holds(42, "A place of the SHEET in a SLOT.");
        RoomWatch x = States.after(States.PACKED);
        s.is("the first", 5, x.item(1, 0));
        s.is("the last but two", 26, x.item(1, 21));
        s.is("the last", 0, x.item(1, 23));
        RoomWatch far = row(FLOATS, -99999, 99999);
        far.lay(4, 2, 0);
        s.is("the least float", -99999, far.item(4, 0));
        s.is("the greatest float", 99999, far.item(4, 1));
        s.quiet("item", States.RICH, y -> y.item(2, 4));

        s.holds(42, "BAD: slot;");
        for (int wrong : Sentences.outside(0, 4)) {
            s.refuses("slot " + wrong, BAD, States.RICH, y -> y.item(wrong, 0));
            s.refuses("ahead of INDEX, slot " + wrong, BAD, States.RICH, y -> y.item(wrong, -1));
        }

        s.holds(42, "NOTHING;");
        s.refuses("an empty slot", NOTHING, States.RICH, y -> y.item(0, 0));
        s.refuses("ahead of INDEX", NOTHING, States.RICH, y -> y.item(0, -1));

        s.holds(42, "KIND: it is no SHEET;");
        for (int place : new int[] {0, -1, 24, MIN, MAX}) {
            s.refuses("a post, place " + place, KIND, States.RICH, y -> y.item(1, place));
            s.refuses("a number, place " + place, KIND, States.RICH, y -> y.item(3, place));
        }

        s.holds(42, "INDEX;");
        for (int wrong : Sentences.outside(0, 4)) s.refuses("place " + wrong, INDEX, States.RICH, y -> y.item(2, wrong));
        for (int wrong : Sentences.outside(0, 23)) s.refuses("place " + wrong + " of 24", INDEX, States.PACKED, y -> y.item(1, wrong));
        RoomWatch none = row(FLOATS);
        none.lay(0, 2, 0);
        s.is("a row of none", INDEX, none.item(0, 0));
        RoomWatch less = row(FLOATS, 1, 2, 3);
        less.lay(0, 2, 0);
        less.sheet(0, FLOATS, 1);
        less.lay(0, 2, 0);
        s.is("a shorter one in its place", INDEX, less.item(0, 1));

        s.holds(42, "KIND: NO NUMBER.");
        s.refuses("no number", KIND, States.RICH, y -> y.item(2, 2));
    }

    private void rest() {
        s.holds(43, "The rest of the number in a SLOT by n.");
        int[][] rests = {{17, 5, 2}, {17, -5, 2}, {-17, 5, -2}, {-17, -5, -2}, {17, 17, 0}, {17, 18, 17}, {17, 1, 0}, {17, -1, 0}, {0, 5, 0},
            {MIN, -1, 0}, {MIN, 1, 0}, {MIN, MIN, 0}, {MIN, MAX, -1}, {MAX, MIN, MAX}, {MAX, MAX, 0}, {-1, MIN, -1}, {4, 5, 4}, {5, 5, 0}};
        for (int[] t : rests) {
            RoomWatch x = new RoomWatch();
            x.lay(4, 3, t[0]);
            s.is(t[0] + " by " + t[1], t[2], x.rest(4, t[1]));
        }
        s.quiet("rest", States.RICH, x -> x.rest(3, 5));

        s.holds(43, "BAD: slot;");
        for (int wrong : Sentences.outside(0, 4)) {
            s.refuses("slot " + wrong, BAD, States.RICH, x -> x.rest(wrong, 1));
            s.refuses("ahead of NO, slot " + wrong, BAD, States.RICH, x -> x.rest(wrong, 0));
        }

        s.holds(43, "NOTHING;");
        s.refuses("an empty slot", NOTHING, States.RICH, x -> x.rest(0, 1));
        s.refuses("ahead of NO", NOTHING, States.RICH, x -> x.rest(0, 0));

        s.holds(43, "KIND: it is no number;");
        s.refuses("a post", KIND, States.RICH, x -> x.rest(1, 1));
        s.refuses("a sheet", KIND, States.RICH, x -> x.rest(2, 1));
        s.refuses("ahead of NO, a post", KIND, States.RICH, x -> x.rest(1, 0));
        s.refuses("ahead of NO, a sheet", KIND, States.RICH, x -> x.rest(2, 0));

        s.holds(43, "NO: n is 0.");
        s.refuses("by 0", NO, States.RICH, x -> x.rest(3, 0));
        s.refuses("the least number by 0", NO, States.PACKED, x -> x.rest(3, 0));
        RoomWatch zero = new RoomWatch();
        zero.lay(0, 3, 0);
        s.is("0 by 0", NO, zero.rest(0, 0));
    }
}
