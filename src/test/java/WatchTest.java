/** Promises 25 and 26 (watch, fair) and part V. */
public final class WatchTest {
    private static final int ONE = 1 << 20;

    public static void main(String[] args) {
        atFirst();
        doors();
        knownDoors();
        openDoors();
        shotAndHit();
        shotAndMiss();
        shotWithoutTrial();
        chanceOfOne();
        chanceOfNone();
        oneDarkCell();
        woundedAndUnseen();
        sixtyFourThatAreSure();
        settledLater();
        machine();
        machineWaitsAndUnevenGaps();
        deadHands();
        noMoreThanSixtyFour();
        risk();
        fair();
        fairWhenTakenBack();
        wrongNumbers();
        Check.end("WatchTest");
    }

    private static void watch(String what, Judge x, int p, int kind, int... want) {
        for (int k = 0; k < 4; k++) Check.due(what + ", watch(" + p + ", " + kind + ", " + k + ")", x.watch(p, kind, k), want[k]);
    }

    private static void atFirst() {
        Judge x = new Judge();
        for (int p = 0; p < 2; p++) {
            watch("at first", x, p, 0, 0, 0, ONE, 0);
            watch("at first", x, p, 1, 0, 0, ONE, 0);
            Check.due("fair", x.fair(p, 0) + x.fair(p, 1), 0);
        }
    }

    /** Three words that nobody could know: 1 / 16 each, and the third is too much. */
    private static void doors() {
        Check.Game g = new Check.Game(3, 3, 1);
        g.x.late(0);
        g.x.door(1, 5);
        g.x.door(3, 6);
        g.x.door(2, 7);
        g.send(0, Check.OPEN, Check.RIGHT, 5, 0);
        g.steps(1);
        watch("one", g.x, 0, 0, 1, 1, 65536, 0);
        g.send(0, Check.OPEN, Check.DOWN, 6, 1);
        g.steps(1);
        watch("two", g.x, 0, 0, 2, 2, 4096, 0);
        g.doNow(0, Check.STEP, Check.RIGHT);
        watch("a step is no trial", g.x, 0, 0, 2, 2, 4096, 0);
        g.send(0, Check.OPEN, Check.RIGHT, 7, 3);
        g.steps(1);
        watch("three", g.x, 0, 0, 3, 3, 256, 5);
        watch("gaps all 1", g.x, 0, 1, 2, 2, 65536, 0);
        g.x.begin(3, 3, 1);
        watch("behind begin", g.x, 0, 0, 0, 0, ONE, 0);
        watch("behind begin", g.x, 0, 1, 0, 0, ONE, 0);
    }

    private static void knownDoors() {
        Check.Game g = new Check.Game(3, 3, 1);
        g.x.late(0);
        g.x.door(1, 5);
        g.x.door(3, 6);
        g.x.plate(0, 0);
        g.send(0, Check.OPEN, Check.RIGHT, 5, 0);
        g.steps(1);
        watch("known: no trial", g.x, 0, 0, 0, 0, ONE, 0);
        g.send(0, Check.OPEN, Check.DOWN, 5, 1);
        g.steps(1);
        watch("another door is not known; a wrong word", g.x, 0, 0, 1, 0, ONE, 0);
        g.send(0, Check.OPEN, Check.DOWN, 6, 2);
        g.steps(1);
        // T is (983040, 65536), then (921600, 122880, 4096)
        watch("then the right one", g.x, 0, 0, 2, 1, 122880 + 4096, 0);
    }

    private static void openDoors() {
        Check.Game g = new Check.Game(3, 3, 1);
        g.x.late(0);
        g.x.door(1, 5);
        g.send(0, Check.OPEN, Check.RIGHT, 5, 0);
        g.steps(1);
        g.send(0, Check.OPEN, Check.RIGHT, 5, 1);
        g.steps(1);
        watch("open already: no trial", g.x, 0, 0, 1, 1, 65536, 0);
        Check.due("an open without a door, sent early", g.send(0, Check.OPEN, Check.LEFT, 5, 3), 0);
        g.steps(2);
        watch("no door: no trial", g.x, 0, 0, 1, 1, 65536, 0);
        watch("but an act: gaps 1, 2", g.x, 0, 1, 1, 0, ONE, 0);
    }

    /** In 10 columns and 3 rows 15 cells are unseen, 3 of them in the line, with 2 that stand. */
    private static void shotAndHit() {
        Check.Game g = new Check.Game(10, 3, 2);
        g.x.late(0);
        g.x.place(1, 6);
        g.x.place(3, 7);
        g.doNow(0, Check.SHOT, Check.RIGHT);
        Check.due("hit", g.x.hit(0, 0), 3);
        watch("2 times 3 of 15", g.x, 0, 0, 1, 1, 419430, 0);
        Check.Game h = new Check.Game(10, 3, 2);
        h.x.late(0);
        h.x.place(1, 6);
        h.x.wall(8);
        h.x.wall(7);
        h.x.door(9, 1);
        h.doNow(0, Check.SHOT, Check.RIGHT);
        watch("2 times 2 of 13: walls count for nothing, doors do", h.x, 0, 0, 1, 1, (int) (4L * ONE / 13), 0);
    }

    private static void shotAndMiss() {
        Check.Game g = new Check.Game(10, 3, 2);
        g.x.late(0);
        g.doNow(0, Check.SHOT, Check.RIGHT);
        watch("a miss", g.x, 0, 0, 1, 0, ONE, 0);
        g.steps(2);
        g.doNow(0, Check.SHOT, Check.DOWN);
        watch("all of the line is seen: no trial", g.x, 0, 0, 1, 0, ONE, 0);
        watch("of the other nothing", g.x, 1, 0, 0, 0, ONE, 0);
    }

    private static void shotWithoutTrial() {
        Check.Game g = new Check.Game(10, 3, 2);
        g.x.late(0);
        g.x.place(1, 4);
        g.doNow(0, Check.SHOT, Check.RIGHT);
        Check.due("hit", g.x.hit(0, 0), 3);
        watch("one that is seen stands in the line", g.x, 0, 0, 0, 0, ONE, 0);
        Check.due("a shot with rest, sent early", g.send(0, Check.SHOT, Check.RIGHT, 0, 2), 0);
        g.steps(2);
        watch("no shot: no trial", g.x, 0, 0, 0, 0, ONE, 0);
    }

    private static void chanceOfOne() {
        Check.Game g = new Check.Game(6, 3, 1);
        g.x.late(0);
        g.x.place(1, 5);
        g.x.place(1, 11);
        g.x.place(1, 17);
        g.doNow(0, Check.SHOT, Check.RIGHT);
        Check.due("hit", g.x.hit(0, 0), 2);
        watch("3 times 1 of 3: sure", g.x, 0, 0, 1, 1, ONE, 0);
    }

    /** Nothing unseen stands there at the state, but player 1, seen beside the line, steps into its unseen part. */
    private static void chanceOfNone() {
        Check.Game g = new Check.Game(6, 3, 2);
        g.x.late(0);
        g.doNow(1, Check.STEP, Check.LEFT);
        g.doNow(1, Check.STEP, Check.UP);
        Check.due("player 1 at 10", g.x.body(1, 0), 10);
        g.doNow(1, Check.STEP, Check.RIGHT);
        Check.due("player 1 at 11, unseen", g.x.sees(0, 11), 0);
        g.doNow(1, Check.STEP, Check.LEFT);
        g.doNow(1, Check.STEP, Check.UP);
        Check.due("player 1 at 4, seen", g.x.sees(0, 4), 1);
        g.send(1, Check.STEP, Check.RIGHT, 0, 5);
        g.send(0, Check.SHOT, Check.RIGHT, 0, 5);
        g.steps(1);
        Check.due("tick 5 begins with player 1; hit at 5", g.x.hit(5, 0), 2);
        watch("by the state at 5 one stands in the seen line", g.x, 0, 0, 0, 0, ONE, 0);
        Check.Game h = new Check.Game(6, 3, 2);
        h.x.late(0);
        h.doNow(1, Check.STEP, Check.UP);
        h.send(1, Check.STEP, Check.UP, 0, 1);
        h.send(0, Check.SHOT, Check.RIGHT, 0, 1);
        h.steps(1);
        Check.due("hit at 5", h.x.hit(1, 0), 2);
        watch("1 times 1 of 3", h.x, 0, 0, 1, 1, ONE / 3, 0);
        Check.Game k = new Check.Game(6, 3, 1);
        k.x.late(0);
        k.doNow(0, Check.SHOT, Check.RIGHT);
        watch("chance 0 is a trial all the same", k.x, 0, 0, 1, 0, ONE, 0);
    }

    private static void oneDarkCell() {
        Check.Game g = new Check.Game(6, 3, 1);
        g.x.late(0);
        g.x.wall(11);
        g.x.wall(17);
        g.doNow(0, Check.SHOT, Check.RIGHT);
        watch("the only dark cell is in the line", g.x, 0, 0, 1, 0, ONE, 0);
    }

    /** The beast at 6 has 1 LIFE left at the second SHOT: 1 times 3 of 15. */
    private static void woundedAndUnseen() {
        Check.Game g = new Check.Game(10, 3, 1);
        g.x.late(0);
        g.x.place(1, 6);
        g.doNow(0, Check.SHOT, Check.RIGHT);
        watch("whole", g.x, 0, 0, 1, 1, 209715, 0);
        g.steps(2);
        g.doNow(0, Check.SHOT, Check.RIGHT);
        watch("wounded", g.x, 0, 0, 2, 2, (int) (209715L * 209715 / ONE), 0);
    }

    /** Cells 5, 6, 7, 21 and 23 are dark, 3 of them in the line, and 2 THINGS stand there: the row T ends at T(64). */
    private static void sixtyFourThatAreSure() {
        Check.Game g = new Check.Game(8, 3, 2);
        g.x.late(0);
        int[] walls = {13, 14, 15, 22};
        for (int c : walls) g.x.wall(c);
        g.x.place(1, 21);
        for (int i = 0; i < 64; i++) {
            g.doNow(0, Check.SHOT, Check.RIGHT);
            g.steps(2);
        }
        watch("64 of them, and no hit", g.x, 0, 0, 64, 0, ONE, 0);
    }

    private static void settledLater() {
        Check.Game g = new Check.Game(3, 3, 1);
        g.x.door(1, 5);
        g.x.risk(65536);
        g.send(0, Check.OPEN, Check.RIGHT, 5, 0);
        g.steps(4);
        watch("not settled at 4", g.x, 0, 0, 0, 0, ONE, 0);
        g.steps(1);
        watch("settled at 5", g.x, 0, 0, 1, 1, 65536, 6);
        g.steps(9);
        watch("told once", g.x, 0, 0, 1, 1, 65536, 6);
        Check.Game h = new Check.Game(3, 3, 1);
        h.x.late(8);
        h.x.door(1, 5);
        h.steps(8);
        h.send(0, Check.OPEN, Check.RIGHT, 5, 0);
        watch("late, not settled at 8", h.x, 0, 0, 0, 0, ONE, 0);
        h.steps(1);
        watch("settled at 9", h.x, 0, 0, 1, 1, 65536, 0);
    }

    /** 1 / 4 each: the fifth of equal gaps leaves 1024 of 2^20. */
    private static void machine() {
        Check.Game g = new Check.Game(3, 3, 1);
        g.x.late(0);
        int[] tails = {ONE, ONE, 262144, 65536, 16384, 4096, 1024};
        for (int i = 0; i < 7; i++) {
            g.doNow(0, Check.STEP, Check.UP);
            g.steps(1);
            watch("act " + i, g.x, 0, 1, Math.max(0, i - 1), Math.max(0, i - 1), tails[i], i == 6 ? 14 : 0);
        }
        watch("no foreseeing", g.x, 0, 0, 0, 0, ONE, 0);
    }

    private static void machineWaitsAndUnevenGaps() {
        Check.Game g = new Check.Game(3, 3, 1);
        g.x.late(0);
        g.doNow(0, Check.STEP, Check.UP);
        g.doNow(0, Check.WAIT, 0);
        g.doNow(0, Check.STEP, Check.UP);
        watch("one gap: no trial", g.x, 0, 1, 0, 0, ONE, 0);
        g.doNow(0, Check.WAIT, 0);
        g.doNow(0, Check.STEP, Check.UP);
        watch("2 and 2: waits are no acts", g.x, 0, 1, 1, 1, 262144, 0);
        g.doNow(0, Check.STEP, Check.UP);
        // T is (786432, 262144), then (589824, 393216, 65536)
        watch("2 and 1", g.x, 0, 1, 2, 1, 393216 + 65536, 0);
        g.doNow(0, Check.STEP, Check.UP);
        // then (442368, 442368, 147456, 16384)
        watch("1 and 1", g.x, 0, 1, 3, 2, 147456 + 16384, 0);
    }

    private static void deadHands() {
        Check.Game g = new Check.Game(3, 3, 1);
        g.x.late(0);
        for (int i = 0; i < 3; i++) g.x.place(4, 1);
        for (int t = 0; t < 3; t++) Check.due("sent early", g.send(0, Check.STEP, Check.RIGHT, 0, t), 0);
        g.steps(3);
        watch("behind its death nothing is looked at", g.x, 0, 1, 0, 0, ONE, 0);
    }

    private static void noMoreThanSixtyFour() {
        Check.Game g = new Check.Game(3, 3, 1);
        g.x.late(0);
        g.x.door(1, 5);
        for (int t = 0; t < 64; t++) {
            g.send(0, Check.OPEN, Check.RIGHT, 4, t);
            g.steps(1);
        }
        long[] row = rowOf(64, 65536);
        watch("64", g.x, 0, 0, 64, 0, (int) tailOf(row, 0), 0);
        g.x.risk(ONE);
        g.send(0, Check.OPEN, Check.RIGHT, 5, 64);
        g.steps(1);
        Check.due("the door opens", g.x.open(0), 1);
        watch("the 65th doesn't count", g.x, 0, 0, 64, 0, (int) tailOf(row, 0), 0);
        for (int t = 65; t < 70; t++) {
            g.send(0, Check.STEP, Check.UP, 0, t);
            g.steps(1);
        }
        watch("nor those of the machine", g.x, 0, 1, 64, 64, 0, 8);
    }

    private static long[] rowOf(int trials, long chance) {
        long[] row = new long[100];
        row[0] = ONE;
        for (int i = 0; i < trials; i++) {
            long[] was = row.clone();
            for (int k = 0; k < 100; k++) row[k] = (was[k] * (ONE - chance) + (k > 0 ? was[k - 1] : 0) * chance) / ONE;
        }
        return row;
    }

    private static long tailOf(long[] row, int from) {
        long sum = 0;
        for (int k = from; k < row.length; k++) sum += row[k];
        return sum;
    }

    private static void risk() {
        Check.Game g = new Check.Game(3, 3, 1);
        g.x.late(0);
        g.x.door(1, 5);
        g.x.risk(65535);
        g.send(0, Check.OPEN, Check.RIGHT, 5, 0);
        g.steps(1);
        watch("one below", g.x, 0, 0, 1, 1, 65536, 0);
        g.x.risk(65536);
        g.steps(1);
        watch("told only behind a trial", g.x, 0, 0, 1, 1, 65536, 0);
        Check.Game h = new Check.Game(3, 3, 1);
        h.x.late(0);
        h.x.door(1, 5);
        h.x.risk(ONE);
        h.send(0, Check.OPEN, Check.RIGHT, 4, 0);
        h.steps(1);
        watch("all are told at the greatest risk", h.x, 0, 0, 1, 0, ONE, 2);
    }

    private static void fair() {
        Check.Game g = new Check.Game(3, 3, 2);
        g.x.late(2);
        g.doNow(1, Check.STEP, Check.UP);
        g.doNow(1, Check.STEP, Check.UP);
        g.doNow(1, Check.SHOT, Check.LEFT);
        Check.due("hit", g.x.hit(2, 1), 1);
        g.steps(1);
        Check.due("not settled", g.x.fair(1, 0), 0);
        g.steps(1);
        Check.due("settled, in time", g.x.fair(1, 0), 1);
        g.steps(1);
        Check.due("none late", g.x.fair(1, 1), 0);
        Check.due("a late shot", g.send(1, Check.SHOT, Check.LEFT, 0, 5), 1);
        Check.due("hit", g.x.hit(5, 1), 1);
        g.steps(2);
        Check.due("settled, late", g.x.fair(1, 1), 1);
        Check.due("in time as it was", g.x.fair(1, 0), 1);
        g.send(1, Check.SHOT, Check.LEFT, 0, 10);
        g.steps(6);
        Check.due("sent early is in time", g.x.fair(1, 0), 2);
        Check.due("of the other none", g.x.fair(0, 0) + g.x.fair(0, 1), 0);
        g.x.begin(3, 3, 2);
        Check.due("behind begin", g.x.fair(1, 0) + g.x.fair(1, 1), 0);
    }

    private static void fairWhenTakenBack() {
        Check.Game g = new Check.Game(3, 3, 2);
        g.x.late(2);
        g.doNow(1, Check.STEP, Check.UP);
        g.doNow(1, Check.STEP, Check.UP);
        g.steps(1);
        g.doNow(1, Check.SHOT, Check.LEFT);
        Check.due("taken back", g.send(0, Check.STEP, Check.DOWN, 0, 2), 2);
        g.steps(5);
        Check.due("what is taken back is no hit", g.x.fair(1, 0), 0);
    }

    private static void wrongNumbers() {
        Judge x = new Judge();
        int[] wrong = {-1, 4, Integer.MAX_VALUE, Integer.MIN_VALUE};
        for (int w : wrong) {
            Check.due("watch player " + w, x.watch(w, 0, 0), RunJudge.NONE);
            Check.due("watch kind " + w, x.watch(0, w, 0), RunJudge.NONE);
            Check.due("watch what " + w, x.watch(0, 0, w), RunJudge.NONE);
            Check.due("fair player " + w, x.fair(w, 0), RunJudge.NONE);
            Check.due("fair what " + w, x.fair(0, w), RunJudge.NONE);
        }
        Check.due("watch player 2", x.watch(2, 0, 0), RunJudge.NONE);
        Check.due("watch kind 2", x.watch(0, 2, 0), RunJudge.NONE);
        Check.due("fair player 2", x.fair(2, 0), RunJudge.NONE);
        Check.due("fair what 2", x.fair(0, 2), RunJudge.NONE);
    }
}
