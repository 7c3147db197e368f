/** Boundary cases of rows that are told and of THE IMAGE: promises 44 to 48. */
final class ImageBounds {
    private static final int BAD = Sentences.BAD, NO = Sentences.NO, FULL = Sentences.FULL, NONE = Sentences.NONE;
    private static final int MIN = Sentences.MIN, MAX = Sentences.MAX;
    private static final int STOOL = 0, LAMP = 2, SLIT = 3, DOOR = 4, DOZER = 5;

    private final Sentences s;

    private ImageBounds(Sentences s) {
        this.s = s;
    }

    static void run(Sentences s) {
        ImageBounds all = new ImageBounds(s);
        all.refusals();
        all.images();
        all.hoursTold();
        all.tell();
        all.check();
        all.keep();
        all.back();
        all.count();
    }

    /** Sixty numbers wait, there is no image. */
    private static final States.Run WAITING = x -> {
        for (int k = 0; k < 60; k++) x.tell(k);
    };

    /** THE THIEF cannot leave the last cell and is caught each hour; two posts, of whom one sees it. */
    private static RoomWatch boxed() {
        RoomWatch x = new RoomWatch();
        x.post(STOOL, 38, 0);
        x.post(LAMP, 0, 0);
        x.thief(47);
        x.wall(46, 1);
        x.wall(39, 1);
        x.rule(0, 0);
        x.rule(1, 0);
        return x;
    }

    private static RoomWatch boxedAt(int hour) {
        RoomWatch x = boxed();
        for (int k = 0; k < hour / 100; k++) x.hours(100);
        if (hour % 100 > 0) x.hours(hour % 100);
        return x;
    }

    private static RoomWatch kept(RoomWatch x) {
        x.keep();
        return x;
    }

    private static int checked(RoomWatch x, int n, int... numbers) {
        for (int v : numbers) x.tell(v);
        return x.check(n);
    }

    private void refusals() {
        s.holds(Sentences.TERMS, "A call that is refused answers one of BAD, NO, FULL, or a FINDING, of several the one that stands first with it, "
            + "and changes nothing (but the tape and the numbers that wait, where told).");
        s.refuses("BAD", BAD, States.PACKED, x -> x.post(6, 0, 4));
        s.refuses("NO ahead of FULL", NO, States.PACKED, x -> x.post(0, 0, 0));
        s.refuses("FULL", FULL, States.PACKED, x -> x.post(0, 20, 0));
        s.refuses("a FINDING", Sentences.NOTHING, States.RICH, x -> x.pour(3));
        s.spends("the tape", FULL, States.TAPE, States.PACKED, RoomWatch::text);
        s.spends("the numbers that wait, BAD", BAD, States.WAITING, States.RICH, x -> x.check(0));
        s.spends("the numbers that wait, NO", NO, States.WAITING, WAITING, x -> x.check(1));
    }

    private void images() {
        s.holds(Sentences.TERMS, "AN IMAGE keeps all but SHEETS, SLOTS, numbers that wait, THE TAPE; all can become as it is (again and again).");
        RoomWatch x = States.after(States.RICH);
        x.keep();
        int[] room = States.told(States.ROOM, x), texts = States.told(States.TEXTS, x);
        for (int again = 0; again < 2; again++) {
            RoomWatch y = States.after(States.RICH);
            y.keep();
            for (int k = 0; k <= again; k++) {
                change(y);
                s.is("back", 6, y.back());
            }
            int[] then = again == 0 ? States.told(States.ROOM, y) : States.told(States.TEXTS, y);
            int[] due = again == 0 ? room : texts;
            for (int k = 0; k < due.length; k++) s.is("as it was, answer " + k, due[k], then[k]);
        }
        RoomWatch z = new RoomWatch();
        z.keep();
        z.sheet(0, 0, 2);
        z.mark(0, 1, 9);
        z.lay(0, 3, 5);
        z.lay(1, 2, 0);
        z.tell(4);
        Due.tape(z, "fee 3");
        z.back();
        s.is("the sheet stays", 1, z.copy(0, 1, 0, 0, 1));
        s.is("the slot stays", 5, z.rest(0, 9));
        s.is("the sheet in a slot stays", 9, z.item(1, 1));
        s.is("the number that waits stays", 1, z.count(5));
        s.is("the tape stays", 5, z.count(6));
        s.is("and is what it was", 0, z.text());
        s.is("and gives it", 3, z.fee());
        RoomWatch full = new RoomWatch();
        full.keep();
        States.PACKED.on(full);
        s.is("PACKED keeps its own image", 8, full.back());
    }

    private static void change(RoomWatch x) {
        x.post(DOZER, 1, 1);
        x.post(DOOR, 2, 1);
        for (int k = 0; k < 6; k++) {
            x.turns(k, (k + 1) % 6);
            x.set(k, 2, (x.told(k, 2) + 1) % 4);
            x.set(k, 3, 99 - x.told(k, 3));
            x.moves(k, 11 + k);
        }
        x.wall(10, 0);
        x.wall(46, 1);
        x.thief(43);
        x.rule(0, 3);
        x.rule(1, 4);
        x.seed(1234);
        x.hours(9);
        Due.text(x, "reach 1");
        Due.text(x, "fee 2");
        Due.text(x, "fine 3");
    }

    private void hoursTold() {
        s.holds(Sentences.TERMS, "THE HOURS TOLD: of n HOURS, one behind the other, by THE IMAGE: CAUGHT; TIRED of all, together, behind each.");
        RoomWatch x = boxed();
        x.hours(2);
        x.keep();
        s.is("by THE IMAGE, one", 0, checked(x, 1, 3, 20));
        s.is("two", 0, checked(x, 2, 3, 20, 4, 20));
        s.is("the lamp is out in odd hours", 0, checked(x, 3, 3, 20, 4, 20, 5, 30));
        x.turns(0, SLIT);
        x.rule(0, 100);
        x.hours(7);
        s.is("not by what is now", 0, checked(x, 3, 3, 20, 4, 20, 5, 30));
        s.is("nothing changes", 9, x.count(1));
        x.keep();
        s.is("by the new IMAGE", 0, checked(x, 1, 2, x.behind(1, 4)));
        RoomWatch nobody = new RoomWatch();
        nobody.keep();
        s.is("nobody", 0, checked(nobody, 2, 0, 0, 0, 0));
    }

    // ---- promises

    private void tell() {
        s.holds(44, "One more number waits: how many.");
        RoomWatch x = new RoomWatch();
        int[] numbers = {MIN, MAX, 0, -1, BAD, NONE};
        for (int k = 1; k <= 60; k++) s.is("tell", k, x.tell(numbers[k % 6]));
        x.check(1);
        s.is("from the first again", 1, x.tell(5));
        s.leaves("tell", States.RICH, y -> y.tell(5), States.WAITING);

        s.holds(44, "FULL: 60 wait.");
        for (int v : new int[] {0, MIN, MAX}) {
            s.refuses("tell " + v, FULL, WAITING, y -> y.tell(v));
            s.refuses("tell " + v + " with an image", FULL, States.PACKED, y -> y.tell(v));
        }
        s.is("all sixty are as they were", 0, tooMany(States.after(States.PACKED)).check(30));
    }

    private static RoomWatch tooMany(RoomWatch x) {
        for (int k = 0; k < 3; k++) x.tell(-7);
        return x;
    }

    private void check() {
        s.holds(45, "The numbers that wait (none do then, whatever is answered) are THE HOURS TOLD");
        RoomWatch x = boxed();
        x.keep();
        s.is("right", 0, checked(x, 1, 1, 10));
        s.is("none wait then", 0, x.count(5));
        s.is("not right", 1, checked(x, 1, 2, 10));
        s.is("none wait then", 0, x.count(5));
        s.is("BAD", BAD, checked(x, 31, 1, 10));
        s.is("none wait then", 0, x.count(5));
        RoomWatch no = new RoomWatch();
        s.is("NO", NO, checked(no, 1, 0, 0));
        s.is("none wait then", 0, no.count(5));
        s.is("the next ones are the first", 0, checked(x, 1, 1, 10));

        s.holds(45, "of n (1 .. 30; fewer, if THE HOUR would be above 9999), two by two: 0;");
        int[] thirty = States.hoursTold(boxed(), 30);
        for (int n : new int[] {1, 2, 29, 30}) {
            int[] due = new int[2 * n];
            System.arraycopy(thirty, 0, due, 0, 2 * n);
            s.is("n " + n, 0, checked(kept(boxed()), n, due));
        }
        for (int hour : new int[] {9968, 9969, 9970, 9997, 9998, 9999}) {
            RoomWatch late = boxedAt(hour);
            int left = 9999 - hour;
            int[] numbers = States.hoursTold(late, 30);
            late.keep();
            for (int n : new int[] {1, 2, 29, 30}) {
                int[] due = new int[2 * Math.min(n, left)];
                System.arraycopy(numbers, 0, due, 0, due.length);
                s.is("from " + hour + ", n " + n, 0, checked(late, n, due));
            }
        }
        RoomWatch early = boxedAt(9990);
        int[] nine = States.hoursTold(early, 9);
        early.keep();
        early.hours(100);
        s.is("THE HOUR of THE IMAGE, not that of now", 0, checked(early, 30, nine));
        RoomWatch before = boxed();
        before.keep();
        int[] three = States.hoursTold(before, 3);
        for (int k = 0; k < 100; k++) before.hours(100);
        s.is("though it is the last hour now", 0, checked(before, 3, three));

        s.holds(45, "else 1 and how many stand right ahead of the first that is not (or is missing, or one too many).");
        for (int wrong = 0; wrong < 60; wrong++) {
            int[] due = thirty.clone();
            due[wrong]++;
            s.is("the number " + wrong + " is not", 1 + wrong, checked(kept(boxed()), 30, due));
        }
        int[] both = thirty.clone();
        both[7]--;
        both[3]--;
        s.is("the first of two", 4, checked(kept(boxed()), 30, both));
        for (int told : new int[] {0, 1, 2, 57, 58, 59}) {
            int[] due = new int[told];
            System.arraycopy(thirty, 0, due, 0, told);
            s.is(told + " of 60, the next is missing", 1 + told, checked(kept(boxed()), 30, due));
        }
        s.is("one too many", 3, checked(kept(boxed()), 1, thirty[0], thirty[1], thirty[2]));
        s.is("two too many", 3, checked(kept(boxed()), 1, thirty[0], thirty[1], thirty[2], thirty[3]));
        s.is("far too many", 3, checked(kept(boxed()), 1, thirty));
        s.is("too many, but one is not", 2, checked(kept(boxed()), 1, thirty[0], -1, thirty[2]));
        RoomWatch last = boxedAt(9999);
        last.keep();
        s.is("no hour is left, one too many", 1, checked(last, 30, 0));
        s.is("no hour is left, none wait", 0, checked(last, 30));
        RoomWatch one = boxedAt(9998);
        int[] due = States.hoursTold(one, 2);
        one.keep();
        s.is("one hour is left, two are told", 3, checked(one, 2, due));
        s.is("one hour is left, a half is told", 2, checked(one, 2, due[0]));

        s.holds(45, "BAD;");
        for (int wrong : Sentences.outside(1, 30)) {
            s.spends("n " + wrong, BAD, States.WAITING, States.RICH, y -> y.check(wrong));
            s.spends("n " + wrong + " of sixty", BAD, States.WAITING, States.PACKED, y -> y.check(wrong));
            s.spends("ahead of NO, n " + wrong, BAD, States.WAITING, WAITING, y -> y.check(wrong));
        }

        s.holds(45, "NO: there is no IMAGE.");
        s.spends("no image", NO, States.WAITING, WAITING, y -> y.check(30));
        s.spends("no image, none wait", NO, States.WAITING, States.BARE, y -> y.check(1));
        s.spends("a check that is right changes nothing else", 0, States.WAITING, States.PACKED, y -> y.check(30));
        s.spends("a check that is not, neither", 3, States.WAITING, States.PACKED, y -> y.check(1));
    }

    private void keep() {
        s.holds(46, "AN IMAGE is kept: how many POSTS.");
        RoomWatch x = new RoomWatch();
        s.is("none", 0, x.keep());
        for (int k = 1; k <= 8; k++) {
            x.post(STOOL, k, 0);
            s.is("so many", k, x.keep());
        }
        s.is("again", 8, x.keep());
        s.leaves("keep", States.RICH, RoomWatch::keep, States.IMAGE, States.IMAGE_TEXTS, States.WAITING);
        x.set(7, 3, 5);
        x.keep();
        x.set(7, 3, 6);
        x.back();
        s.is("the last image counts", 5, x.told(7, 3));
        RoomWatch empty = new RoomWatch();
        empty.keep();
        States.Run packed = States.PACKED;
        packed.on(empty);
        s.is("an image over an image", 8, empty.back());
        s.is("with its texts", 14, empty.count(4));
    }

    private void back() {
        s.holds(47, "All is as THE IMAGE: how many POSTS.");
        RoomWatch x = new RoomWatch();
        x.keep();
        x.deal(8);
        for (int k = 0; k < 14; k++) Due.text(x, "reach 3");
        x.hours(100);
        x.wall(x.room(2) == 1 ? 2 : 1, 1);
        x.rule(0, 1);
        x.rule(1, 2);
        s.is("to none", 0, x.back());
        int[] counts = {0, 0, 20, 30, 0, 0, 0, 1};
        for (int what = 0; what < 8; what++) s.is("count " + what, counts[what], x.count(what));
        for (int what = 0; what < 6; what++) s.is("room " + what, 0, x.room(what));
        s.is("no post", BAD, x.told(0, 0));
        s.is("no text", BAD, x.textTold(0, 0));
        s.is("none counts", NONE, x.why(0));
        for (int k = 0; k < 8; k++) s.is("room for eight again", k, x.post(STOOL, k, 0));
        for (int k = 0; k < 14; k++) s.is("and for fourteen texts", k, Due.text(x, "fine 3"));
        s.is("again and again", 0, x.back());
        s.leaves("back", States.RICH, RoomWatch::back, States.ROOM, States.TEXTS);
        s.is("from none to none", 0, x.back());
        s.is("eight", 8, States.after(States.PACKED).back());
        RoomWatch late = boxedAt(9999);
        late.back();
        s.is("without an image the hour stays", 9999, late.count(1));
        late.keep();
        late.seed(7);
        late.back();
        s.is("the last hour is kept", 9999, late.count(1));

        s.holds(47, "NO: there is none.");
        s.refuses("no image", NO, States.BARE, RoomWatch::back);
        s.refuses("no image, sixty wait", NO, WAITING, RoomWatch::back);
    }

    private void count() {
        s.holds(48, "0 how many POSTS, 1 THE HOUR, 2 STEALTH, 3 TIRES, 4 TEXTS, 5 numbers that wait, 6 bytes of THE TAPE, 7 z.");
        RoomWatch x = States.after(States.PACKED);
        x.rule(0, 100);
        x.rule(1, 0);
        x.seed(MIN);
        int[] most = {8, 50, 100, 0, 14, 60, 96, MIN};
        for (int what = 0; what < 8; what++) s.is("as many as may be, " + what, most[what], x.count(what));
        int[] least = {0, 0, 20, 30, 0, 0, 0, 1};
        for (int what = 0; what < 8; what++) s.is("a new object, " + what, least[what], new RoomWatch().count(what));
        for (int what = 0; what < 8; what++) {
            int asked = what;
            s.quiet("count " + what, States.RICH, y -> y.count(asked));
        }

        s.holds(48, "BAD.");
        for (int wrong : Sentences.outside(0, 7)) {
            s.refuses("what " + wrong, BAD, States.RICH, y -> y.count(wrong));
            s.refuses("what " + wrong + " of a new object", BAD, States.BARE, y -> y.count(wrong));
        }
    }
}
