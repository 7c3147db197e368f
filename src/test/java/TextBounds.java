/** Boundary cases of THE TAPE and of TEXTS: the terms' fourth part, promises 30 to 34. */
final class TextBounds {
    private static final int BAD = Sentences.BAD, FULL = Sentences.FULL, NONE = Sentences.NONE;
    private static final int MIN = Sentences.MIN, MAX = Sentences.MAX;
    private static final String EIGHT_OPEN = "((((((((", EIGHT_SHUT = "))))))))", EIGHT_NOTS = "!!!!!!!!";

    /** Thirteen texts, the last but one place. */
    private static final States.Run THIRTEEN = x -> {
        for (int k = 0; k < 13; k++) Due.text(x, "fee " + k);
    };

    private final Sentences s;

    private TextBounds(Sentences s) {
        this.s = s;
    }

    static void run(Sentences s) {
        TextBounds all = new TextBounds(s);
        all.cutting();
        all.textsAndTape();
        all.keys();
        all.levels();
        all.pieces();
        all.names();
        all.words();
        all.blanks();
        all.faults();
        all.tooDeep();
        all.tooSoon();
        all.values();
        all.last();
        all.feed();
        all.trim();
        all.text();
        all.textTold();
        all.why();
    }

    private void right(String text) {
        s.is("'" + text + "'", 0, Due.text(new RoomWatch(), text));
    }

    private void fault(String text, int place) {
        s.is("'" + text + "'", -100 - place, Due.text(new RoomWatch(), text));
    }

    private void gives(String sum, int want) {
        RoomWatch x = new RoomWatch();
        right("fee " + sum);
        Due.text(x, "fee " + sum);
        s.is("'" + sum + "'", want, x.fee());
    }

    private void cutting() {
        s.holds(Sentences.TERMS, "All numbers are whole; / cuts towards 0.");
        gives("7/2", 3);
        gives("(0-7)/2", -3);
        gives("7/(0-2)", -3);
        gives("(0-7)/(0-2)", 3);
        gives("1/2", 0);
        gives("(0-1)/2", 0);
        gives("8/2", 4);
        gives("(0-8)/2", -4);
    }

    // ---- 4 TEXTS

    private void textsAndTape() {
        s.holds(Sentences.TERMS, "TEXTS, 14 at most, numbered from 0, from THE TAPE (96 bytes at most; an act that reads it uses it up, whatever it answers):");
        RoomWatch x = new RoomWatch();
        for (int k = 0; k < 14; k++) s.is("text", k, Due.text(x, "fee " + k));
        s.is("a fifteenth", FULL, Due.text(x, "fee 14"));
        s.is("uses THE TAPE up, too", 0, x.count(6));
        s.is("so many", 14, x.count(4));
        RoomWatch y = new RoomWatch();
        for (int k = 1; k <= 8; k++) s.is("bytes", 12 * k, y.feed(0x20202020, 0x20202020, 0x20202020));
        s.is("no more", FULL, y.feed(0, 0, 0));
        s.is("a fault", -196, y.text());
        s.is("uses THE TAPE up", 0, y.count(6));
        s.is("an empty one", -100, y.text());
        Due.tape(y, "fee 1");
        s.is("a text", 0, y.text());
        s.is("uses THE TAPE up as well", 0, y.count(6));
        Due.tape(y, "fee 2");
        y.trim(4);
        s.is("what is trimmed away is not read", -104, y.text());
        y.feed(Due.four("e 77", 0), Due.four("    ", 0), Due.four("    ", 0));
        s.is("nor what was there before", -100, y.text());
    }

    private void keys() {
        s.holds(Sentences.TERMS, "KEY E. KEY: reach | fee | fine.");
        String[] keys = {"reach", "fee", "fine"};
        for (int key = 0; key < 3; key++) {
            RoomWatch x = new RoomWatch();
            s.is(keys[key], 0, Due.text(x, keys[key] + " 1"));
            s.is("its key", key, x.textTold(0, 0));
        }
        for (String wrong : new String[] {"teach 1", "reack 1", "rexch 1", "see 1", "fea 1", "fre 1", "wine 1", "fina 1", "fone 1", "reac 1", "reachs 1", "fe 1", "feee 1", "fin 1", "fines 1", "f 1", "Fee 1", "FEE 1", "rfee 1", "1", "(fee 1)",
            "!fee 1", "c", "* 1"}) {
            fault(wrong, 0);
        }
        fault("fee fee 1", 4);
        fault("fee 1 fee 1", 6);
        fault("fee reach", 4);
        fault("fee ", 4);
        fault("fee", 3);
    }

    private void levels() {
        s.holds(Sentences.TERMS, "E, the loosest first: OR: AND { | AND };");
        gives("0|0", 0);
        gives("0|2", 1);
        gives("3|0", 1);
        gives("3|2", 1);
        gives("0|0|0|4", 1);
        gives("1|0&0", 1);
        gives("0&0|1", 1);
        fault("fee |1", 4);
        fault("fee 1||1", 6);
        fault("fee 1|", 6);

        s.holds(Sentences.TERMS, "AND: TEST { & TEST };");
        gives("2&4", 1);
        gives("2&0", 0);
        gives("0&2", 0);
        gives("0&0", 0);
        gives("1&2&3&0", 0);
        gives("1&2&3&4", 1);
        gives("2&3=3", 1);
        gives("2=2&3", 1);
        fault("fee &1", 4);
        fault("fee 1&&1", 6);
        fault("fee 1&", 6);

        s.holds(Sentences.TERMS, "TEST: SUM [ (< | = | >) SUM ];");
        int[][] pairs = {{3, 4}, {4, 4}, {5, 4}};
        for (int[] p : pairs) {
            gives(p[0] + "<" + p[1], p[0] < p[1] ? 1 : 0);
            gives(p[0] + "=" + p[1], p[0] == p[1] ? 1 : 0);
            gives(p[0] + ">" + p[1], p[0] > p[1] ? 1 : 0);
        }
        gives("1+1=2", 1);
        gives("2=1+1", 1);
        gives("0-1<0", 1);
        for (String sign : new String[] {"<", "=", ">"}) {
            for (String other : new String[] {"<", "=", ">"}) {
                fault("fee 1" + sign + "2" + other + "3", 7);
                fault("fee 1" + sign + other + "3", 6);
                right("fee (1" + sign + "2)" + other + "3");
                right("fee 1" + sign + "(2" + other + "3)");
                right("fee 1" + sign + "2&1" + other + "3");
                right("fee 1" + sign + "2|1" + other + "3");
                fault("fee 1" + sign + "2+1*3" + other + "3", 11);
            }
            fault("fee " + sign + "1", 4);
            fault("fee 1" + sign, 6);
        }

        s.holds(Sentences.TERMS, "SUM: TERM { (+ | -) TERM };");
        gives("20-5-3", 12);
        gives("20-5+3", 18);
        gives("2+3*4", 14);
        gives("3*4+2", 14);
        gives("9-8/4", 7);
        fault("fee -1", 4);
        fault("fee +1", 4);
        fault("fee 1--1", 6);
        fault("fee 1+-1", 6);
        fault("fee 1*-1", 6);
        fault("fee 1+", 6);

        s.holds(Sentences.TERMS, "TERM: PIECE { (* | /) PIECE };");
        gives("100/5/2", 10);
        gives("7/2*2", 6);
        gives("2*7/2", 7);
        gives("2*!0*3", 6);
        fault("fee *1", 4);
        fault("fee 1**1", 6);
        fault("fee 1//1", 6);
        fault("fee 1/", 6);
    }

    private void pieces() {
        s.holds(Sentences.TERMS, "PIECE: NUMBER (1 to 4 digits) | NAME | ! PIECE | ( E ).");
        gives("0", 0);
        gives("9", 9);
        gives("9999", 9999);
        gives("0000", 0);
        gives("0001", 1);
        fault("fee 10000", 4);
        fault("fee 00000", 4);
        fault("fee 1+10000+1", 6);
        gives("!0", 1);
        gives("!1", 0);
        gives("!9999", 0);
        gives("!!5", 1);
        gives("!0+4", 5);
        gives("!4=0", 1);
        gives("!(0+4)", 0);
        gives("(5)", 5);
        gives("((5))", 5);
        gives("(1|0)&0", 0);
        gives("(2+3)*(4-2)", 10);
        fault("fee ()", 5);
        fault("fee (1", 6);
        fault("fee 1)", 5);
        fault("fee (1))", 7);
        fault("fee 1(2)", 5);
        fault("fee (1)(2)", 7);
        fault("fee 1!", 5);
        fault("fee (1)2", 7);
        fault("fee !", 5);
        fault("fee !)", 5);
        fault("fee !+1", 5);
    }

    private void names() {
        s.holds(Sentences.TERMS, "NAMES, each one letter: of reach t TIRED, s SIDE, h THE HOUR;");
        RoomWatch x = new RoomWatch();
        x.post(0, 0, 3);
        x.hours(2);
        x.set(0, 2, 3);
        x.set(0, 3, 41);
        int[] is = {41, 3, 2};
        for (int k = 0; k < 3; k++) {
            Due.text(x, "reach " + "tsh".charAt(k));
            s.is("reach " + "tsh".charAt(k), is[k], x.told(0, 5));
        }
        x.post(0, 1, 1);
        x.set(1, 3, 7);
        Due.text(x, "reach t*10+s");
        s.is("of each its own", 71, x.told(1, 5));
        letters("reach ", "tsh");
        fault("reach ts", 6);
        fault("reach tt", 6);

        s.holds(Sentences.TERMS, "of fee c CAUGHT, u UNSEEN (what fee gives is told by fee(); without a TEXT: CAUGHT);");
        RoomWatch y = new RoomWatch();
        y.post(0, 0, 0);
        s.is("nothing was", 0, y.fee());
        y.hours(9);
        int caught = y.room(0), unseen = y.room(1);
        s.is("both were", 1, caught > 0 && unseen > 0 && caught != unseen ? 1 : 0);
        s.is("without a text", caught, y.fee());
        Due.text(y, "fee u");
        s.is("fee u", unseen, y.fee());
        Due.text(y, "fee c");
        s.is("fee c", caught, y.fee());
        letters("fee ", "cu");

        s.holds(Sentences.TERMS, "of fine t TIRED, c CELL (what fine gives for a POST is told by fine(); without a TEXT: SIDE).");
        RoomWatch z = new RoomWatch();
        z.post(0, 47, 3);
        z.set(0, 3, 99);
        s.is("without a text", 3, z.fine(0));
        Due.text(z, "fine t");
        s.is("fine t", 99, z.fine(0));
        Due.text(z, "fine c");
        s.is("fine c", 47, z.fine(0));
        letters("fine ", "tc");
    }

    /** All letters but these are no names there. */
    private void letters(String key, String names) {
        for (char c = 'a'; c <= 'z'; c++) {
            if (names.indexOf(c) >= 0) {
                right(key + c);
            } else {
                fault(key + c, key.length());
            }
        }
    }

    private void words() {
        s.holds(Sentences.TERMS, "A word is a row of letters a .. z, or of digits, as long as it goes; any other byte is a sign by itself.");
        fault("feec", 0);
        for (String word : new String[] {"cc", "ca", "cz", "ac", "zc", "cu", "uc"}) fault("fee " + word, 4);
        fault("fee 12345", 4);
        for (int b = 0; b < 256; b++) {
            char c = (char) b;
            boolean joins = "|&<=>+-*/".indexOf(c) >= 0;
            if (joins) {
                right("fee 1" + c + "1");
            } else if (c == ' ') {
                fault("fee 1 1", 6);
            } else if (c >= '0' && c <= '9') {
                right("fee 1" + c + "1");
            } else {
                fault("fee 1" + c + "1", 5);
            }
            boolean letter = c >= 'a' && c <= 'z';
            if (joins) {
                right("fee c" + c + "c");
                fault("fee" + c + "1", 3);
            } else if (c == ' ') {
                right("fee" + c + "1");
            } else {
                fault("fee c" + c + "c", letter ? 4 : 5);
                if (c == '(') {
                    fault("fee" + c + "1", 5);
                } else if (c == '!') {
                    right("fee" + c + "1");
                } else {
                    fault("fee" + c + "1", letter ? 0 : 3);
                }
            }
            if (c == '(' || c == '!') {
                fault("fee " + c, 5);
            } else if (c != ' ' && c != 'c' && c != 'u' && (c < '0' || c > '9')) {
                fault("fee " + c, 4);
            }
        }
        fault("fee `", 4);
        fault("fee {", 4);
        fault("fee :", 4);
    }

    private void blanks() {
        s.holds(Sentences.TERMS, "Between words and signs, and at the ends, there may be blanks (byte 32); a word right behind another one needs one.");
        right("fee 1");
        right("  fee   1  ");
        right("fee(1)");
        right("fee!1");
        right("fee (1)");
        right(" fee ( ! 1 + ( c ) ) * u ");
        fault("fee1", 3);
        fault("fee 1c", 5);
        fault("fee c1", 5);
        fault("fee (1c)", 6);
        fault("fee 1 c", 6);
        fault("fee 1 1", 6);
        fault("f ee 1", 0);
        fault("fee 1 0000", 6);
        fault("fee\t1", 3);
        fault("fee 1\n", 5);
        fault("fee\u00a01", 3);
        fault("fee 1\u0000", 5);
        right(" ".repeat(91) + "fee 1");
        right("fee 1" + " ".repeat(91));
        right("fee" + " ".repeat(92) + "1");
    }

    private void faults() {
        s.holds(Sentences.TERMS, "FAULT: the first byte of the first word or sign with which no TEXT goes on");
        fault("x", 0);
        fault("   x", 3);
        fault("fee c + xyz", 8);
        fault("fee c + )", 8);
        fault("fee c c + ) x", 6);
        fault("fee    %", 7);
        fault(" ".repeat(95) + "x", 95);
        fault("fee 1" + " ".repeat(90) + "x", 95);
        fault("x" + " ".repeat(95), 0);
        fault("fee 1 ) )", 6);
    }

    private void tooDeep() {
        s.holds(Sentences.TERMS, "(a word that needs a blank ahead of it, a NUMBER of more than 4 digits, the ninth ( that would be open within others, the ninth ! likewise, each by itself);");
        fault("fee5", 3);
        fault("fee 5u", 5);
        fault("fee u5", 5);
        fault("fee 55555", 4);
        fault("fee 1*55555", 6);
        right("fee 5555");
        right("fee " + EIGHT_OPEN + "1" + EIGHT_SHUT);
        fault("fee " + EIGHT_OPEN + "(1)" + EIGHT_SHUT, 12);
        fault("fee " + EIGHT_OPEN + "1+(1)" + EIGHT_SHUT, 14);
        right("fee " + EIGHT_OPEN + "1)+(1)" + EIGHT_SHUT.substring(1));
        right("fee " + EIGHT_OPEN + "1" + EIGHT_SHUT + "*" + EIGHT_OPEN + "1" + EIGHT_SHUT);
        fault("fee " + EIGHT_OPEN + "1" + EIGHT_SHUT + "*" + EIGHT_OPEN + "(1" + EIGHT_SHUT + ")", 30);
        right("fee " + EIGHT_NOTS + "1");
        fault("fee " + EIGHT_NOTS + "!1", 12);
        right("fee " + EIGHT_NOTS + "1+" + EIGHT_NOTS + "1");
        fault("fee " + EIGHT_NOTS + "1+" + EIGHT_NOTS + "!1", 22);
        right("fee " + EIGHT_NOTS + EIGHT_OPEN + "1" + EIGHT_SHUT);
        right("fee " + "!(".repeat(8) + "1" + EIGHT_SHUT);
        fault("fee " + "!(".repeat(8) + "!1" + EIGHT_SHUT, 20);
        fault("fee " + "!(".repeat(8) + "(1)" + EIGHT_SHUT, 20);
        fault("fee " + EIGHT_NOTS + "(!1)", 13);
        right("fee " + EIGHT_NOTS + "(1)+!1");
        right("fee !(" + "!".repeat(7) + "1+" + "!".repeat(7) + "1)");
        fault("fee !(" + "!".repeat(7) + "1+" + EIGHT_NOTS + "1)", 22);
    }

    private void tooSoon() {
        s.holds(Sentences.TERMS, "the end (the place behind the last byte), if it comes too soon.");
        fault("", 0);
        fault(" ", 1);
        fault("fee", 3);
        fault("fee   ", 6);
        fault("fee (", 5);
        fault("fee (1", 6);
        fault("fee (1 ", 7);
        fault("fee 1+", 6);
        fault("fee 1 + ", 8);
        fault("fee !", 5);
        fault("fee " + EIGHT_OPEN + "1" + EIGHT_SHUT.substring(1), 20);
        fault(" ".repeat(96), 96);
        fault("fee " + "1+".repeat(46), 96);
        fault(" ".repeat(93) + "fee", 96);
        right("fee " + "1+".repeat(45) + "01");
    }

    private void values() {
        s.holds(Sentences.TERMS, "Ints wrap; / is 0 by 0; tests, & | ! give 1 or 0 (what is not 0 is true; both sides are worked out).");
        gives("32*8192*8192-1", MAX);
        gives("32*8192*8192-1+1", MIN);
        gives("0-32*8192*8192-1", MAX);
        gives("9999*9999*9999", 9999 * 9999 * 9999);
        gives("32*8192*8192*2", 0);
        gives("(32*8192*8192)/(0-1)", MIN);
        gives("0-32*8192*8192", MIN);
        gives("5/0", 0);
        gives("0/0", 0);
        gives("(0-5)/0", 0);
        gives("5/(1-1)+3", 3);
        gives("1/0|1", 1);
        gives("(0-1)&(0-1)", 1);
        gives("(0-1)|0", 1);
        gives("!(0-1)", 0);
        gives("!!(0-7)", 1);
        gives("7&9", 1);
        gives("7|9", 1);
        gives("0&1/0", 0);
        gives("1|1/0", 1);
        gives("(3<4)+(4=4)+(5>4)", 3);
        gives("32*8192*8192<0", 1);
    }

    private void last() {
        s.holds(Sentences.TERMS, "Of a KEY that TEXT counts that was told last.");
        RoomWatch x = new RoomWatch();
        for (int k = 0; k < 13; k++) Due.text(x, "fee " + k);
        s.is("the thirteenth", 12, x.fee());
        Due.text(x, "fine 77");
        s.is("another key's does not count", 12, x.fee());
        Due.text(x, "fee 99");
        s.is("nor one that was refused", 12, x.fee());
        RoomWatch y = new RoomWatch();
        Due.text(y, "fee 5");
        Due.text(y, "fee 6+");
        s.is("nor one with a fault", 5, y.fee());
        y.keep();
        Due.text(y, "fee 7");
        s.is("the last", 7, y.fee());
        y.back();
        s.is("as THE IMAGE has it", 5, y.fee());
        s.is("told again, it has the next number", 1, Due.text(y, "fee 8"));
        s.is("and counts", 8, y.fee());
    }

    // ---- promises

    private void feed() {
        s.holds(30, "Twelve bytes come to THE TAPE, the highest of each number first: how many it has.");
        RoomWatch x = new RoomWatch();
        s.is("twelve", 12, x.feed(0x66656520, 0x2863202B, 0x20313229));
        s.is("fee (c + 12)", 0, x.text());
        s.is("gives", 12, x.fee());
        s.is("of a byte above 127", 12, x.feed(0x66656520, 0x31FF2020, 0x20202020));
        s.is("the fault is there", -105, x.text());
        s.is("all bits", 12, x.feed(-1, MIN, MAX));
        s.is("no word", -100, x.text());
        for (int k = 1; k <= 8; k++) s.is("so many", 12 * k, x.feed(0x20202020, 0x20202020, 0x20202020));
        x.trim(95);
        x.trim(84);
        s.is("to the last byte", 96, x.feed(0x20202020, 0x20202020, 0x20202078));
        s.is("which is the last", -195, x.text());
        s.leaves("feed", States.RICH, y -> y.feed(1, 2, 3), States.TAPE);

        s.holds(30, "FULL: it would have more than 96.");
        s.refuses("all are there", FULL, States.PACKED, y -> y.feed(0, 0, 0));
        for (int many : new int[] {85, 86, 95, 96}) {
            States.Run tape = y -> Due.tape(y, "fee " + " ".repeat(many - 5) + "7");
            s.refuses("twelve to " + many, FULL, tape, y -> y.feed(0x20202020, 0, 0));
        }
        RoomWatch z = new RoomWatch();
        Due.tape(z, " ".repeat(84));
        s.is("twelve to 84", 96, z.feed(0, 0, 0));
    }

    private void trim() {
        s.holds(31, "THE TAPE keeps its first n bytes: n.");
        RoomWatch x = new RoomWatch();
        s.is("none of none", 0, x.trim(0));
        for (int k = 0; k < 8; k++) x.feed(0x66656520, 0x31303230, 0x20202020);
        s.is("all", 96, x.trim(96));
        s.is("one less", 95, x.trim(95));
        s.is("it has", 95, x.count(6));
        s.is("the first six", 6, x.trim(6));
        s.is("are a text", 0, x.text());
        s.is("fee 10", 10, x.fee());
        x.feed(0, 0, 0);
        s.is("none", 0, x.trim(0));
        s.is("it has none", 0, x.count(6));
        s.leaves("trim", States.RICH, y -> y.trim(3), States.TAPE);
        s.leaves("trim to all", States.RICH, y -> y.trim(10));

        s.holds(31, "BAD.");
        for (int wrong : Sentences.outside(0, 10)) s.refuses("n " + wrong + " of 10", BAD, States.RICH, y -> y.trim(wrong));
        for (int wrong : Sentences.outside(0, 96)) s.refuses("n " + wrong + " of 96", BAD, States.PACKED, y -> y.trim(wrong));
        for (int wrong : Sentences.outside(0, 0)) s.refuses("n " + wrong + " of none", BAD, States.BARE, y -> y.trim(wrong));
    }

    private void text() {
        s.holds(32, "THE TAPE is a TEXT: its number.");
        s.is("the first", 0, Due.text(new RoomWatch(), "fee 1"));
        s.is("the last", 13, Due.text(States.after(THIRTEEN), "fee 1"));
        RoomWatch longest = new RoomWatch();
        s.is("96 bytes", 0, Due.text(longest, "fee " + "1+".repeat(45) + "01"));
        s.is("all of them count", 46, longest.fee());
        s.leaves("text", States.RICH, RoomWatch::text, States.TAPE, States.TEXTS, States.ROOM);

        s.holds(32, "-100 less the place of its FAULT;");
        s.spends("an empty tape", -100, States.TAPE, States.BARE, RoomWatch::text);
        s.spends("the first byte", -100, States.TAPE, tapeOf("x"), RoomWatch::text);
        s.spends("the second byte", -101, States.TAPE, tapeOf(" x"), RoomWatch::text);
        s.spends("the last byte", -195, States.TAPE, tapeOf(" ".repeat(95) + "x"), RoomWatch::text);
        s.spends("the end of 96", -196, States.TAPE, tapeOf("fee " + "1+".repeat(46)), RoomWatch::text);
        s.spends("ahead of FULL", -104, States.TAPE, fourteenAnd("fee x"), RoomWatch::text);
        s.spends("ahead of FULL, the end", -103, States.TAPE, fourteenAnd("fee"), RoomWatch::text);
        RoomWatch open = new RoomWatch();
        Due.text(open, "fee " + EIGHT_OPEN);
        Due.text(open, "fee " + EIGHT_NOTS);
        s.is("what a fault left open does not count", 0, Due.text(open, "fee " + EIGHT_NOTS + EIGHT_OPEN + "5" + EIGHT_SHUT));
        s.is("nor in what it gives", 1, open.fee());

        s.holds(32, "FULL.");
        s.spends("fourteen are there", FULL, States.TAPE, States.PACKED, RoomWatch::text);
        s.spends("fourteen are there, of another key", FULL, States.TAPE, fourteenAnd("reach t"), RoomWatch::text);
    }

    private static States.Run tapeOf(String bytes) {
        return x -> {
            States.RICH.on(x);
            Due.tape(x, bytes);
        };
    }

    private static States.Run fourteenAnd(String bytes) {
        return x -> {
            THIRTEEN.on(x);
            Due.text(x, "fine 9");
            Due.tape(x, bytes);
        };
    }

    private void textTold() {
        s.holds(33, "Of a TEXT: what 0 KEY (0 reach, 1 fee, 2 fine), 1 how many NUMBERS and NAMES it has.");
        RoomWatch x = new RoomWatch();
        String[] texts = {"reach 1", "fee c", "fine !(!1)", "reach t+t*h", "fee (1)+(2)-c/u", "fee " + "1+".repeat(45) + "u "};
        int[][] told = {{0, 1}, {1, 1}, {2, 1}, {0, 3}, {1, 4}, {1, 46}};
        for (int k = 0; k < texts.length; k++) s.is("text", k, Due.text(x, texts[k]));
        for (int k = 0; k < texts.length; k++) {
            s.is("key of " + texts[k], told[k][0], x.textTold(k, 0));
            s.is("how many of " + texts[k], told[k][1], x.textTold(k, 1));
        }
        s.is("the last of fourteen", 1, States.after(States.PACKED).textTold(13, 0));
        s.quiet("key", States.RICH, y -> y.textTold(3, 0));
        s.quiet("how many", States.RICH, y -> y.textTold(3, 1));

        s.holds(33, "BAD.");
        for (int wrong : Sentences.outside(0, 3)) s.refuses("text " + wrong, BAD, States.RICH, y -> y.textTold(wrong, 0));
        for (int wrong : Sentences.outside(0, 13)) s.refuses("text " + wrong + " of 14", BAD, States.PACKED, y -> y.textTold(wrong, 0));
        for (int wrong : Sentences.outside(0, 1)) s.refuses("what " + wrong, BAD, States.RICH, y -> y.textTold(0, wrong));
        s.refuses("none at all", BAD, States.BARE, y -> y.textTold(0, 0));
    }

    private void why() {
        s.holds(34, "The TEXT that counts for a KEY.");
        RoomWatch x = States.after(States.RICH);
        int[] counts = {0, 3, 2};
        for (int key = 0; key < 3; key++) s.is("key " + key, counts[key], x.why(key));
        int[] packed = {12, 13, 11};
        RoomWatch y = States.after(States.PACKED);
        for (int key = 0; key < 3; key++) s.is("of fourteen, key " + key, packed[key], y.why(key));
        s.quiet("why", States.RICH, z -> z.why(1));

        s.holds(34, "BAD;");
        for (int wrong : Sentences.outside(0, 2)) {
            s.refuses("key " + wrong, BAD, States.RICH, z -> z.why(wrong));
            s.refuses("ahead of NONE, key " + wrong, BAD, States.BARE, z -> z.why(wrong));
        }

        s.holds(34, "NONE.");
        for (int key = 0; key < 3; key++) {
            int asked = key;
            s.refuses("none at all, key " + key, NONE, States.BARE, z -> z.why(asked));
            RoomWatch z = new RoomWatch();
            Due.text(z, key == 0 ? "fee 1" : "reach 1");
            s.is("none of key " + key, NONE, z.why(key));
        }
    }
}
