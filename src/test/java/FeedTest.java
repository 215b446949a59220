/** Promises 9 and 10: pack and feed. */
public final class FeedTest {
    public static void main(String[] args) {
        pack();
        garbled();
        kinds();
        seqs();
        seqGoesRound();
        ticks();
        twice();
        dead();
        crafted();
        craftedByTheStateAtTheTick();
        lastTicks();
        Check.end("FeedTest");
    }

    private static void pack() {
        Judge x = new Judge();
        Check.due("all 0", x.pack(0, 0, 0, 0, 0), 0);
        Check.due("kind 1", x.pack(1, 0, 0, 0, 0), 1L + (1L << 34));
        Check.due("d 2", x.pack(0, 2, 0, 0, 0), 32L + (6L << 34));
        Check.due("w 15", x.pack(0, 0, 15, 0, 0), 960L + (75L << 34));
        Check.due("tick 3", x.pack(0, 0, 0, 3, 0), 3072L + (21L << 34));
        Check.due("seq 2", x.pack(0, 0, 0, 0, 2), (2L << 26) + (22L << 34));
        long sum = (6 + 9 + 0 + 7 * 499 + 11 * 255) % 256;
        Check.due("many", x.pack(6, 3, 0, 499, 255), 6L + 48 + (499L << 10) + (255L << 26) + (sum << 34));
        Check.due("low bits alone", x.pack(16 + 1, 4 + 1, 16, 65536, 256), x.pack(1, 1, 0, 0, 0));
        long all = 15 + 9 + 75 + 7 * 65535 + 11 * 255;
        Check.due("below 0", x.pack(-1, -1, -1, -1, -1), (1L << 34) - 1 + (all % 256 << 34));
    }

    private static void garbled() {
        Judge x = new Judge();
        long good = x.pack(1, 1, 0, 0, 0);
        Check.due("player -1", x.feed(-1, good), RunJudge.NONE);
        Check.due("player 2", x.feed(2, good), RunJudge.NONE);
        Check.due("none ahead of garbled", x.feed(2, good + 1), RunJudge.NONE);
        for (int bit = 34; bit < 64; bit++) Check.due("bit " + bit, x.feed(0, good ^ 1L << bit), RunJudge.GARBLED);
        Check.due("wrong sum", x.feed(0, good + 2), RunJudge.GARBLED);
        Check.due("garbled ahead of kind", x.feed(0, 15), RunJudge.GARBLED);
        Check.due("refused letters", x.count(9), 35);
        Check.due("taken letters", x.count(8), 0);
        Check.due("nothing has changed", x.act(0, 0), 4096);
        Check.due("good", x.feed(0, good), 0);
        Check.due("taken letters", x.count(8), 1);
        Check.due("the act", x.act(0, 0), 17);
    }

    private static void kinds() {
        Check.Game g = new Check.Game(5, 5, 2);
        for (int kind = 7; kind < 16; kind++) Check.due("kind " + kind, g.send(0, kind, 0, 0, 0), RunJudge.KIND);
        int[] noWord = {0, 1, 2, 4, 5, 6};
        for (int kind : noWord) Check.due("word of " + kind, g.send(0, kind, 0, 1, 0), RunJudge.KIND);
        int[] noDirection = {0, 4, 5};
        for (int kind : noDirection) Check.due("direction of " + kind, g.send(0, kind, 1, 0, 0), RunJudge.KIND);
        Check.due("kind ahead of seq", g.x.feed(0, g.x.pack(7, 0, 0, 0, 9)), RunJudge.KIND);
        Check.due("an open with word and direction, for a later tick", g.send(0, 3, 3, 15, 1), 0);
        Check.due("the act", g.x.act(1, 0), 3 + 16 * 3 + 64 * 15);
        Check.due("a step with direction", g.send(0, 1, 3, 0, 0), 0);
        Check.due("a wait", g.send(1, 0, 0, 0, 0), 0);
        Check.due("the wait is an act", g.x.act(0, 1), 0);
    }

    private static void seqs() {
        Judge x = new Judge();
        Check.due("seq 1 first", x.feed(0, x.pack(1, 1, 0, 0, 1)), RunJudge.SEQ);
        Check.due("seq ahead of early", x.feed(0, x.pack(1, 1, 0, 9, 1)), RunJudge.SEQ);
        Check.due("seq 0", x.feed(0, x.pack(1, 1, 0, 0, 0)), 0);
        Check.due("seq 0 again", x.feed(0, x.pack(1, 1, 0, 1, 0)), RunJudge.SEQ);
        Check.due("seq ahead of twice", x.feed(0, x.pack(1, 1, 0, 0, 0)), RunJudge.SEQ);
        Check.due("refused: the same seq is next", x.feed(0, x.pack(1, 1, 0, 0, 1)), RunJudge.TWICE);
        Check.due("seq 1", x.feed(0, x.pack(1, 1, 0, 1, 1)), 0);
        Check.due("the other has its own", x.feed(1, x.pack(1, 1, 0, 0, 0)), 0);
    }

    private static void seqGoesRound() {
        Judge x = new Judge();
        for (int t = 0; t < 255; t++) {
            Check.due("taken", x.feed(0, Check.bits(0, 0, 0, t, t)), 0);
            if (t > 1) x.step();
        }
        Check.due("seq 0 is not next", x.feed(0, Check.bits(0, 0, 0, 255, 0)), RunJudge.SEQ);
        Check.due("seq 255", x.feed(0, Check.bits(0, 0, 0, 255, 255)), 0);
        x.step();
        Check.due("then 0", x.feed(0, Check.bits(0, 0, 0, 256, 0)), 0);
    }

    private static void ticks() {
        Check.Game g = new Check.Game(5, 5, 2);
        Check.due("3 ahead", g.send(0, 1, 1, 0, 3), RunJudge.EARLY);
        Check.due("2 ahead", g.send(0, 1, 1, 0, 2), 0);
        g.steps(6);
        Check.due("5 late", g.send(0, 1, 1, 0, 1), RunJudge.LATE);
        Check.due("4 late, but there is one", g.send(0, 1, 1, 0, 2), RunJudge.TWICE);
        Check.due("4 late", g.send(1, 1, 3, 0, 2), 4);
        Check.due("3 late", g.send(0, 1, 1, 0, 3), 3);
        Check.due("at now", g.send(0, 1, 1, 0, 6), 0);
        Check.due("1 ahead", g.send(0, 1, 1, 0, 7), 0);
        Check.due("65535", g.send(0, 1, 1, 0, 65535), RunJudge.EARLY);
        Check.Game h = new Check.Game(5, 5, 2);
        h.x.late(0);
        h.steps(1);
        Check.due("1 late, LATE is 0", h.send(0, 1, 1, 0, 0), RunJudge.LATE);
        Check.due("at now, LATE is 0", h.send(0, 1, 1, 0, 1), 0);
        Check.Game k = new Check.Game(5, 5, 2);
        k.x.late(8);
        k.steps(9);
        Check.due("9 late", k.send(0, 1, 1, 0, 0), RunJudge.LATE);
        Check.due("8 late", k.send(0, 1, 1, 0, 1), 8);
        Check.due("it went", k.x.body(0, 0), 1);
    }

    private static void twice() {
        Check.Game g = new Check.Game(5, 5, 2);
        g.send(0, 0, 0, 0, 0);
        Check.due("a wait is an act, too", g.send(0, 1, 1, 0, 0), RunJudge.TWICE);
        Check.due("not the other's", g.send(1, 1, 3, 0, 0), 0);
    }

    /** Player 0 walks onto three traps; what was sent for later ticks is refused, for ticks ahead of it taken. */
    private static void dead() {
        Check.Game g = new Check.Game(5, 3, 2);
        for (int c = 1; c <= 3; c++) g.x.place(4, c);
        for (int i = 0; i < 3; i++) g.doNow(0, Check.STEP, Check.RIGHT);
        Check.due("dead", g.x.body(0, 1), 0);
        Check.due("for now", g.send(0, 1, 1, 0, 3), RunJudge.DEAD);
        Check.due("for later", g.send(0, 1, 1, 0, 5), RunJudge.DEAD);
        Check.due("twice ahead of dead", g.send(0, 1, 1, 0, 2), RunJudge.TWICE);
        Check.due("dead ahead of crafted", g.send(0, 5, 0, 0, 3), RunJudge.DEAD);
        Check.due("the other", g.send(1, 1, 3, 0, 3), 0);
        Check.Game h = new Check.Game(5, 3, 2);
        for (int c = 1; c <= 3; c++) h.x.place(4, c);
        h.steps(4);
        for (int t = 1; t < 4; t++) Check.due("late steps", h.send(0, 1, 1, 0, t), 4 - t);
        Check.due("dead at now", h.x.body(0, 1), 0);
        Check.due("for a tick when it lived", h.send(0, 0, 0, 0, 0), 4);
    }

    private static void crafted() {
        Check.Game g = new Check.Game(5, 3, 2);
        g.x.door(5, 3);
        g.x.place(6, 0);
        g.x.place(5, 0);
        Check.due("put of nothing", g.send(0, 5, 0, 0, 0), RunJudge.CRAFTED);
        Check.due("throw of nothing", g.send(0, 6, 1, 0, 0), RunJudge.CRAFTED);
        Check.due("open at the edge", g.send(0, 3, 0, 3, 0), RunJudge.CRAFTED);
        Check.due("open of a floor", g.send(0, 3, 1, 3, 0), RunJudge.CRAFTED);
        Check.due("open of a door", g.send(0, 3, 2, 3, 0), 0);
        g.steps(1);
        Check.due("open of an open door", g.send(0, 3, 2, 3, 1), 0);
        g.steps(1);
        g.doNow(0, Check.TAKE, 0);
        Check.due("the lamp, by its number", g.x.body(0, 4), 2);
        Check.due("take of a second", g.send(0, 4, 0, 0, 3), RunJudge.CRAFTED);
        Check.due("throw of a lamp", g.send(0, 6, 1, 0, 3), RunJudge.CRAFTED);
        g.doNow(0, Check.PUT, 0);
        g.doNow(0, Check.SHOT, Check.RIGHT);
        Check.due("rest", g.x.body(0, 3), 2);
        Check.due("a shot with rest 2", g.send(0, 2, 1, 0, 5), RunJudge.CRAFTED);
        g.steps(1);
        Check.due("a shot with rest 1", g.send(0, 2, 1, 0, 6), RunJudge.CRAFTED);
        Check.due("not asked for later ticks", g.send(0, 2, 1, 0, 7), 0);
        Check.due("nor for a put", g.send(0, 5, 0, 0, 8), 0);
        g.steps(1);
        Check.due("rest 0: it is taken all the same", g.x.body(0, 3), 0);
        g.steps(1);
        Check.due("the shot was shot", g.x.body(0, 3), 2);
    }

    private static void craftedByTheStateAtTheTick() {
        Check.Game g = new Check.Game(5, 3, 2);
        g.x.place(5, 0);
        g.steps(1);
        g.doNow(0, Check.TAKE, 0);
        g.steps(1);
        Check.due("carried", g.x.body(0, 4), 2);
        Check.due("a take ahead of that take", g.send(0, 4, 0, 0, 0), 3);
        Check.due("a put by the state then", g.send(0, 5, 0, 0, 2), 1);
        Check.due("put", g.x.thing(2, 1), 0);
        Check.due("a throw now that it lies", g.send(0, 6, 1, 0, 3), RunJudge.CRAFTED);
    }

    private static void lastTicks() {
        Check.Game g = new Check.Game(3, 3, 1);
        g.steps(498);
        Check.due("tick 500", g.send(0, 1, 1, 0, 500), RunJudge.EARLY);
        Check.due("tick 499", g.send(0, 1, 1, 0, 499), 0);
        g.steps(2);
        Check.due("now", g.x.count(5), 500);
        Check.due("there", g.x.body(0, 0), 1);
        Check.due("no tick more", g.x.step(), RunJudge.FULL);
        Check.due("now stays", g.x.count(5), 500);
        Check.due("tick 500 at 500", g.send(0, 1, 1, 0, 500), RunJudge.EARLY);
        Check.due("tick 496 at 500", g.send(0, 1, 2, 0, 496), 4);
        Check.due("there now", g.x.body(0, 0), 4);
        Check.due("act(499, 0)", g.x.act(499, 0), 17);
        Check.due("hit(499, 0)", g.x.hit(499, 0), 0);
    }
}
