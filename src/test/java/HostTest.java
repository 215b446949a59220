/** Promises 19 to 24 (replay, fall, act, hit, taken, back) and the going back of part IV. */
public final class HostTest {
    public static void main(String[] args) {
        goingBack();
        takenBack();
        anotherThing();
        severalAtOnce();
        moreThanSixtyFour();
        replayAndFall();
        acts();
        wrongNumbers();
        Check.end("HostTest");
    }

    private static void row(String what, Judge x, int i, int... want) {
        for (int k = 0; k < 4; k++) Check.due(what + ", what " + k, x.taken(i, k), want[k]);
    }

    private static void back(String what, Judge x, int... want) {
        for (int k = 0; k < 4; k++) Check.due(what + ", back(" + k + ")", x.back(k), want[k]);
    }

    private static void goingBack() {
        Check.Game g = new Check.Game(7, 3, 1);
        g.x.place(4, 1);
        g.steps(4);
        back("none yet", g.x, 0, 0, 0, 0);
        Check.due("for now: no going back", g.send(0, Check.STEP, Check.DOWN, 0, 4), 0);
        back("none for now", g.x, 0, 0, 0, 0);
        Check.due("four late", g.send(0, Check.STEP, Check.RIGHT, 0, 0), 4);
        Check.due("worked anew", g.x.body(0, 0), 1);
        Check.due("into the trap", g.x.body(0, 1), 3);
        Check.due("two late", g.send(0, Check.STEP, Check.RIGHT, 0, 2), 2);
        Check.due("on", g.x.body(0, 0), 2);
        back("two", g.x, 2, 6, 4, 0);
        g.steps(1);
        Check.due("the act that was sent first", g.x.body(0, 0), 9);
        Check.due("digest as if all had come in time", g.x.digest(5), g.x.replay(5));
    }

    /** Player 1 at cell 2 shoots along the upper row at player 0, who then turns out to have gone down. */
    private static Check.Game duel() {
        Check.Game g = new Check.Game(3, 3, 2);
        g.doNow(1, Check.STEP, Check.UP);
        g.doNow(1, Check.STEP, Check.UP);
        g.steps(1);
        g.doNow(1, Check.SHOT, Check.LEFT);
        return g;
    }

    private static void takenBack() {
        Check.Game g = duel();
        Check.due("hit", g.x.hit(3, 1), 1);
        Check.due("life", g.x.body(0, 1), 4);
        Check.due("none yet", g.x.taken(0, 0), RunJudge.NONE);
        Check.due("gone down ahead of it", g.send(0, Check.STEP, Check.DOWN, 0, 2), 2);
        Check.due("no hit", g.x.hit(3, 1), 0);
        Check.due("life", g.x.body(0, 1), 5);
        row("taken back", g.x, 0, 3, 1, 0, 4);
        back("one", g.x, 1, 2, 2, 1);
        Check.due("one alone", g.x.taken(1, 0), RunJudge.NONE);
        Check.due("up again", g.send(0, Check.STEP, Check.UP, 0, 3), 1);
        Check.due("tick 3 begins with player 1, who shoots too early", g.x.hit(3, 1), 0);
        back("two", g.x, 2, 3, 2, 1);
        g.x.begin(3, 3, 2);
        back("behind begin", g.x, 0, 0, 0, 0);
        Check.due("behind begin", g.x.taken(0, 0), RunJudge.NONE);
        Check.due("behind begin", g.x.hit(0, 0), RunJudge.NONE);
    }

    private static void anotherThing() {
        // bodies: 0 in cell 0, 1 in cell 14, 2 in cell 4; player 2 shoots left; that 1 came between is told late
        Check.Game g = new Check.Game(5, 3, 3);
        Check.due("1 goes left", g.send(1, Check.STEP, Check.LEFT, 0, 0), 0);
        g.steps(1);
        Check.due("1 goes up", g.send(1, Check.STEP, Check.UP, 0, 1), 0);
        g.steps(2);
        Check.due("a shot", g.send(2, Check.SHOT, Check.LEFT, 0, 3), 0);
        g.steps(1);
        Check.due("of 0", g.x.hit(3, 2), 1);
        Check.due("1 was between", g.send(1, Check.STEP, Check.UP, 0, 2), 2);
        Check.due("of 1", g.x.hit(3, 2), 2);
        row("taken back, of another thing", g.x, 0, 3, 2, 0, 4);
        Check.due("life of 0", g.x.body(0, 1), 5);
        Check.due("life of 1", g.x.body(1, 1), 4);
    }

    /** Players 2 and 3 (and 2 again) shoot at player 0 in ticks 1 and 4; a STEP for tick 0 takes all back, in order. */
    private static void severalAtOnce() {
        Check.Game g = new Check.Game(3, 3, 4);
        g.x.late(8);
        g.steps(1);
        g.send(3, Check.SHOT, Check.UP, 0, 1);
        g.send(2, Check.SHOT, Check.LEFT, 0, 1);
        g.steps(3);
        g.send(3, Check.SHOT, Check.UP, 0, 4);
        g.send(2, Check.SHOT, Check.LEFT, 0, 4);
        g.steps(2);
        Check.due("four hits", g.x.body(0, 1), 1);
        Check.due("out of the way of 3, in that of 2", g.send(0, Check.STEP, Check.RIGHT, 0, 0), 6);
        Check.due("2 hits the same", g.x.hit(1, 2), 1);
        row("first", g.x, 0, 1, 3, 0, 6);
        row("second", g.x, 1, 4, 3, 0, 6);
        back("two hits", g.x, 1, 6, 6, 2);
        Check.due("down, out of the way of both", g.send(0, Check.STEP, Check.DOWN, 0, 3), 3);
        row("third", g.x, 2, 4, 2, 0, 6);
        back("three hits", g.x, 2, 9, 6, 3);
        Check.due("life", g.x.body(0, 1), 4);
    }

    private static void moreThanSixtyFour() {
        Check.Game g = new Check.Game(3, 3, 2);
        g.send(1, Check.STEP, Check.UP, 0, 0);
        g.send(1, Check.STEP, Check.UP, 0, 1);
        g.steps(3);
        for (int i = 0; i < 66; i++) {
            int t = g.x.count(5);
            g.send(1, Check.SHOT, Check.LEFT, 0, t);
            g.steps(1);
            Check.due("taken back, " + i, g.send(0, Check.STEP, Check.DOWN, 0, t - 1), 2);
            g.send(0, Check.STEP, Check.UP, 0, t + 1);
            g.steps(2);
        }
        back("66", g.x, 66, 132, 2, 66);
        row("the first", g.x, 0, 3, 1, 0, 4);
        row("the 64th", g.x, 63, 3 + 63 * 3, 1, 0, 4 + 63 * 3);
        Check.due("no 65th", g.x.taken(64, 0), RunJudge.NONE);
    }

    private static void replayAndFall() {
        Check.Game g = duel();
        g.send(0, Check.STEP, Check.DOWN, 0, 2);
        int[] digests = new int[5];
        for (int t = 0; t < 5; t++) {
            digests[t] = g.x.digest(t);
            Check.due("replay(" + t + ")", g.x.replay(t), digests[t]);
        }
        Check.due("all differ", digests[0] == digests[1] || digests[3] == digests[4] ? 1 : 0, 0);
        Check.due("fall", g.x.fall(), 1);
        for (int t = 0; t < 5; t++) Check.due("digest behind fall", g.x.digest(t), digests[t]);
        Check.due("hit behind fall", g.x.hit(3, 1), 0);
        g.steps(20);
        Check.due("replay of a tick long past", g.x.replay(4), digests[4]);
        int now = g.x.digest(24);
        Check.due("fall", g.x.fall(), 1);
        Check.due("digest behind fall", g.x.digest(24), now);
        Check.due("replay(25)", g.x.replay(25), RunJudge.NONE);
        Check.due("replay(-1)", g.x.replay(-1), RunJudge.NONE);
        Check.due("going back still goes", g.send(0, Check.STEP, Check.UP, 0, 20), 4);
        Check.due("it went", g.x.body(0, 0), 0);
        Check.due("fall at tick 0", new Judge().fall(), 1);
        Check.due("replay at tick 0", new Judge().replay(0), new Judge().digest(0));
    }

    private static void acts() {
        Check.Game g = new Check.Game(5, 5, 2);
        g.x.door(1, 13);
        Check.due("none", g.x.act(0, 0), 4096);
        g.send(0, Check.OPEN, Check.RIGHT, 13, 0);
        g.send(0, Check.STEP, Check.LEFT, 0, 2);
        g.send(1, Check.WAIT, 0, 0, 1);
        Check.due("open", g.x.act(0, 0), 3 + 16 + 64 * 13);
        Check.due("step", g.x.act(2, 0), 1 + 48);
        Check.due("wait", g.x.act(1, 1), 0);
        Check.due("none of 1", g.x.act(0, 1), 4096);
        Check.due("tick 499", g.x.act(499, 1), 4096);
    }

    private static void wrongNumbers() {
        Check.Game g = duel();
        int[] wrong = {-1, 500, Integer.MAX_VALUE, Integer.MIN_VALUE};
        for (int w : wrong) {
            Check.due("act(" + w + ", 0)", g.x.act(w, 0), RunJudge.NONE);
            Check.due("act(0, " + w + ")", g.x.act(0, w), RunJudge.NONE);
            Check.due("hit(" + w + ", 0)", g.x.hit(w, 0), RunJudge.NONE);
            Check.due("hit(0, " + w + ")", g.x.hit(0, w), RunJudge.NONE);
            Check.due("back(" + w + ")", g.x.back(w), RunJudge.NONE);
            Check.due("taken(" + w + ", 0)", g.x.taken(w, 0), RunJudge.NONE);
            Check.due("replay(" + w + ")", g.x.replay(w), RunJudge.NONE);
        }
        Check.due("hit(4, 0): now is 4", g.x.hit(4, 0), RunJudge.NONE);
        Check.due("act(0, 2)", g.x.act(0, 2), RunJudge.NONE);
        Check.due("hit(0, 2)", g.x.hit(0, 2), RunJudge.NONE);
        Check.due("back(4)", g.x.back(4), RunJudge.NONE);
        g.send(0, Check.STEP, Check.DOWN, 0, 2);
        Check.due("taken(0, 4)", g.x.taken(0, 4), RunJudge.NONE);
        Check.due("taken(0, -1)", g.x.taken(0, -1), RunJudge.NONE);
    }
}
