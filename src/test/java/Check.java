/** Counts the calls whose answer is not the one that is due, and writes the letters of players by their next SEQ. */
final class Check {
    static final int WAIT = 0, STEP = 1, SHOT = 2, OPEN = 3, TAKE = 4, PUT = 5, THROW = 6;
    static final int UP = 0, RIGHT = 1, DOWN = 2, LEFT = 3;

    private static int wrong;
    private static int asked;

    /** A judge with its players' next SEQS. */
    static final class Game {
        final RunJudge x = new RunJudge();
        final int[] seq = new int[4];

        Game(int w, int h, int players) {
            due("begin", x.begin(w, h, players), w * h);
        }

        /** Feeds an ACT with the next SEQ and the right SUM: what feed answers. */
        int send(int p, int kind, int d, int w, int t) {
            int r = x.feed(p, x.pack(kind, d, w, t, seq[p]));
            if (r >= 0) seq[p]++;
            return r;
        }

        /** An ACT for NOW that must be taken, and a tick. */
        void doNow(int p, int kind, int d) {
            due("letter of kind " + kind + " is taken", send(p, kind, d, 0, x.count(5)), 0);
            steps(1);
        }

        void steps(int n) {
            for (int i = 0; i < n; i++) x.step();
        }
    }

    private Check() {
    }

    static void due(String what, long got, long want) {
        asked++;
        if (got != want) {
            wrong++;
            System.out.println(what + ": answered " + got + ", due is " + want);
            System.out.println("    at " + new Throwable().getStackTrace()[1]);
        }
    }

    static int fold(int start, int... xs) {
        int sum = start;
        for (int x : xs) sum = 31 * sum + x;
        return sum;
    }

    static void end(String test) {
        System.out.println(test + ": " + asked + " answers asked for, " + wrong + " not as due");
        if (wrong > 0) System.exit(1);
    }
}
