/** Counts answers that are due and those that are not, and tells the latter. */
final class Due {
    private static final long MOST_MILLIS = 600_000;

    private final String test;
    private int right = 0;
    private int wrong = 0;

    Due(String test) {
        this.test = test;
        Thread watch = new Thread(this::stop);
        watch.setDaemon(true);
        watch.start();
    }

    /** A call that does not end would hold up all that comes behind it. */
    private void stop() {
        try {
            Thread.sleep(MOST_MILLIS);
        } catch (InterruptedException e) {
            return;
        }
        System.out.println(test + ": a call does not end");
        Runtime.getRuntime().halt(1);
    }

    void is(String call, long want, long got) {
        if (want == got) {
            right++;
        } else {
            wrong++;
            System.out.println(test + ": " + call + " answered " + got + ", due is " + want);
        }
    }

    int wrong() {
        return wrong;
    }

    void end() {
        System.out.println(test + ": " + right + " answers as due, " + wrong + " not");
        if (wrong > 0 || right == 0) {
            System.exit(1);
        }
    }

    /** Four bytes of a text from a place on, as feed takes them; beyond its end blanks. */
    static int four(String bytes, int from) {
        int v = 0;
        for (int k = from; k < from + 4; k++) {
            v = v << 8 | (k < bytes.length() ? bytes.charAt(k) & 255 : 32);
        }
        return v;
    }

    /** Feeds and trims THE TAPE, so that it holds these bytes alone. */
    static void tape(RoomWatch x, String bytes) {
        x.trim(0);
        for (int k = 0; k < bytes.length(); k += 12) {
            x.feed(four(bytes, k), four(bytes, k + 4), four(bytes, k + 8));
        }
        x.trim(bytes.length());
    }

    static int text(RoomWatch x, String bytes) {
        tape(x, bytes);
        return x.text();
    }
}
