/** What tests share: counting the answers that are not as due, writing letters, and a game with its players' SEQS. */
class Check {
    static final int WAIT = 0, STEP = 1, SHOT = 2, OPEN = 3, TAKE = 4, PUT = 5, THROW = 6;
    static final int UP = 0, RIGHT = 1, DOWN = 2, LEFT = 3;
    static final int BEAST = 1, WOLF = 2, POT = 3, TRAP = 4, STONE = 5, LAMP = 6, CROWN = 7;
    static final int NONE = -1, STARTED = -2, KIND = -3, FULL = -4, GARBLED = -5, SEQ = -6, LATE = -7, EARLY = -8;
    static final int TWICE = -9, DEAD = -10, NOTHING = -11, CAST = -12, PLACE = -13, SIZE = -14, THROWN = -15;
    static final int CRAFTED = -16;
    static final int MIN = Integer.MIN_VALUE, MAX = Integer.MAX_VALUE;
    static final int NO_ACT = 4096, ONE = 1 << 20;

    private static int wrong;
    private static int asked;
    private static String sentence = "";

    /** A judge with its players' next SEQS. */
    static final class Game {
        final Judge x = new Judge();
        final int[] seq = new int[4];

        Game(int w, int h, int players) {
            due("begin", x.begin(w, h, players), w * h);
        }

        /** Feeds an ACT with the next SEQ and the right SUM: what feed answers. */
        int send(int p, int kind, int d, int w, int t) {
            int r = x.feed(p, bits(kind, d, w, t, seq[p]));
            if (r >= 0) seq[p]++;
            return r;
        }

        /** An ACT for NOW that must be taken; the tick is yet to come. */
        void does(int p, int kind, int d) {
            due("letter of player " + p + ", kind " + kind + ", is taken", send(p, kind, d, 0, x.now), 0);
        }

        /** An ACT for NOW that must be taken, and a tick. */
        void doNow(int p, int kind, int d) {
            does(p, kind, d);
            steps(1);
        }

        /** An OPEN for NOW that must be taken, and a tick. */
        void opens(int p, int d, int word) {
            due("an OPEN is taken", send(p, OPEN, d, word, x.now), 0);
            steps(1);
        }

        /** An ACT for a tick ahead of NOW, where the host doesn't ask whether it can be done. */
        void sendsEarly(int p, int kind, int d, int w, int t) {
            due("it is sent ahead of its tick", t > x.now ? 1 : 0, 1);
            due("what is sent early is taken", send(p, kind, d, w, t), 0);
        }

        void steps(int n) {
            for (int i = 0; i < n; i++) x.step();
        }

        void stepsTo(int t) {
            while (x.now < t && x.callsLeft() > 0) x.step();
        }

        void places(int kind, int... cells) {
            for (int c : cells) due("a thing is placed", x.place(kind, c) >= 0 ? 1 : 0, 1);
        }

        void walls(int... cells) {
            for (int c : cells) due("a wall is made", x.wall(c), 1);
        }
    }

    /** A letter's BITS, as part IV lays them. */
    static long bits(int kind, int d, int w, int tick, int seq) {
        long sum = (kind + 3L * d + 5L * w + 7L * tick + 11L * (seq % 256)) % 256;
        return kind + 16L * d + 64L * w + 1024L * tick + (1L << 26) * (seq % 256) + (1L << 34) * sum;
    }

    /** The document's words that the answers asked for from here on are due by. */
    static void sentence(String words) {
        sentence = words;
    }

    static void due(String what, long got, long want) {
        asked++;
        if (got != want) fail(what + ": answered " + got + ", due is " + want);
    }

    static void fail(String what) {
        wrong++;
        System.out.println(what);
        if (!sentence.isEmpty()) System.out.println("    by: " + sentence);
        for (StackTraceElement e : new Throwable().getStackTrace()) {
            if (e.getClassName().endsWith("Test")) {
                System.out.println("    at " + e);
                break;
            }
        }
    }

    static int fold(int start, int... xs) {
        int sum = start;
        for (int x : xs) sum = 31 * sum + x;
        return sum;
    }

    static void end(String test) {
        System.out.println(test + ": " + asked + " answers asked for, " + wrong + " not as due");
        if (wrong > 0) System.exit(1);
    }
}
