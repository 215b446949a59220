/** Promises 27 to 36: tape, view, clear, put, at, copy, play, kept, toss, count. */
public final class TapeTest {
    public static void main(String[] args) {
        tape();
        narrowing();
        put();
        at();
        copy();
        copyRefused();
        play();
        playRefused();
        viewAndKept();
        viewOfTheDead();
        clear();
        count();
        Check.end("TapeTest");
    }

    private static void tape() {
        Judge x = new Judge();
        Check.due("tape(0, 1, 80)", x.tape(0, 1, 80), 80);
        Check.due("the last", x.put(0, 79, 5), 1);
        Check.due("none behind it", x.put(0, 80, 5), RunJudge.PLACE);
        Check.due("tape(5, 4, 0)", x.tape(5, 4, 0), 0);
        Check.due("no place at all", x.put(5, 0, 5), RunJudge.PLACE);
        Check.due("anew: all 0", x.tape(0, 1, 80), 80);
        Check.due("0", x.at(0, 79), 0);
        Check.due("n 81", x.tape(1, 1, 81), RunJudge.NONE);
        Check.due("sort 0", x.tape(1, 0, 1), RunJudge.NONE);
        Check.due("sort 5", x.tape(1, 5, 1), RunJudge.NONE);
        Check.due("tape -1", x.tape(-1, 1, 1), RunJudge.NONE);
        Check.due("tape 6", x.tape(6, 1, 1), RunJudge.NONE);
        Check.due("none ahead of size", x.tape(6, 1, -1), RunJudge.NONE);
        Check.due("size", x.tape(0, 1, -1), RunJudge.SIZE);
        Check.due("size", x.tape(0, 1, Integer.MIN_VALUE), RunJudge.SIZE);
        Check.due("as it was", x.at(0, 79), 0);
        Check.due("refusals of the host's", x.count(10), 4);
    }

    private static void narrowing() {
        Judge x = new Judge();
        long v = 0x123456789ABCDEFFL;
        long[] want = {0, -1, (short) 0xDEFF, 0x9ABCDEFF, v};
        for (int sort = 1; sort <= 4; sort++) {
            x.tape(sort, sort, 3);
            Check.due("put", x.put(sort, 1, v), 1);
            Check.due("narrowed to sort " + sort, x.at(sort, 1), want[sort]);
            Check.due("its neighbours stay", x.at(sort, 0) + x.at(sort, 2), 0);
        }
        x.put(1, 0, 127);
        x.put(1, 1, 128);
        Check.due("127", x.at(1, 0), 127);
        Check.due("128 as a byte", x.at(1, 1), -128);
        x.put(4, 0, Long.MIN_VALUE);
        Check.due("the least long", x.at(4, 0), Long.MIN_VALUE);
    }

    private static void put() {
        Judge x = new Judge();
        x.tape(0, 2, 3);
        x.view(1, 0);
        Check.due("tape -1", x.put(-1, 0, 1), RunJudge.NONE);
        Check.due("tape 6", x.put(6, 0, 1), RunJudge.NONE);
        Check.due("nothing", x.put(2, 0, 1), RunJudge.NOTHING);
        Check.due("a view", x.put(1, 0, 1), RunJudge.CAST);
        Check.due("cast ahead of place", x.put(1, -1, 1), RunJudge.CAST);
        Check.due("place 3", x.put(0, 3, 1), RunJudge.PLACE);
        Check.due("place -1", x.put(0, -1, 1), RunJudge.PLACE);
        Check.due("refusals of the host's, no NONE", x.count(10), 5);
    }

    private static int thrownBy(Judge x, int d, int i) {
        try {
            x.at(d, i);
            return 0;
        } catch (IllegalArgumentException e) {
            return 1;
        } catch (IllegalStateException e) {
            return 2;
        }
    }

    private static void at() {
        Judge x = new Judge();
        x.tape(0, 3, 2);
        x.view(1, 0);
        Check.due("there", thrownBy(x, 0, 1), 0);
        Check.due("tape -1", thrownBy(x, -1, 0), 1);
        Check.due("tape 6", thrownBy(x, 6, 0), 1);
        Check.due("nothing", thrownBy(x, 2, 0), 2);
        Check.due("a view", thrownBy(x, 1, 0), 2);
        Check.due("place -1", thrownBy(x, 0, -1), 2);
        Check.due("place 2", thrownBy(x, 0, 2), 2);
        Check.due("these are not counted", x.count(10), 0);
    }

    private static void row(String what, Judge x, int d, long... want) {
        for (int i = 0; i < want.length; i++) Check.due(what + ", place " + i, x.at(d, i), want[i]);
    }

    private static void copy() {
        Judge x = new Judge();
        x.tape(0, 3, 5);
        x.tape(1, 3, 3);
        for (int i = 0; i < 5; i++) x.put(0, i, i + 1);
        Check.due("onto another", x.copy(0, 1, 1, 0, 3), 3);
        row("another", x, 1, 2, 3, 4);
        row("as it was", x, 0, 1, 2, 3, 4, 5);
        Check.due("onto itself, upwards", x.copy(0, 0, 0, 1, 4), 4);
        row("as they were before", x, 0, 1, 1, 2, 3, 4);
        Check.due("onto itself, downwards", x.copy(0, 1, 0, 0, 4), 4);
        row("as they were before", x, 0, 1, 2, 3, 4, 4);
        Check.due("none, from the end", x.copy(0, 5, 1, 3, 0), 0);
    }

    private static void copyRefused() {
        Judge x = new Judge();
        x.tape(0, 3, 5);
        x.tape(1, 3, 3);
        x.tape(2, 4, 3);
        x.view(3, 0);
        Check.due("tape 6", x.copy(6, 0, 0, 0, 1), RunJudge.NONE);
        Check.due("tape -1", x.copy(0, 0, -1, 0, 1), RunJudge.NONE);
        Check.due("none ahead of nothing", x.copy(4, 0, 6, 0, 1), RunJudge.NONE);
        Check.due("nothing here", x.copy(4, 0, 0, 0, 1), RunJudge.NOTHING);
        Check.due("nothing there", x.copy(0, 0, 4, 0, 1), RunJudge.NOTHING);
        Check.due("nothing ahead of cast", x.copy(3, 0, 4, 0, 1), RunJudge.NOTHING);
        Check.due("two sorts", x.copy(0, 0, 2, 0, 1), RunJudge.CAST);
        Check.due("a view here", x.copy(3, 0, 0, 0, 1), RunJudge.CAST);
        Check.due("a view there", x.copy(0, 0, 3, 0, 1), RunJudge.CAST);
        Check.due("two views", x.copy(3, 0, 3, 0, 1), RunJudge.CAST);
        Check.due("cast ahead of place", x.copy(0, 0, 2, 0, 9), RunJudge.CAST);
        int big = Integer.MAX_VALUE;
        int[][] places = {{-1, 0, 1}, {0, -1, 1}, {0, 0, -1}, {0, 0, 4}, {3, 0, 3}, {0, 1, 3}, {6, 0, 0}, {0, 4, 0},
            {big, 0, big}, {0, big, 1}, {1, 1, big}, {big, big, 0}, {Integer.MIN_VALUE, 0, 1}};
        for (int[] p : places) Check.due("place " + p[0] + " " + p[1] + " " + p[2], x.copy(0, p[0], 1, p[1], p[2]), RunJudge.PLACE);
        Check.due("refusals of the host's", x.count(10), 8 + places.length);
    }

    private static void play() {
        Judge x = new Judge();
        x.tape(0, 4, 4);
        x.put(0, 0, x.pack(1, 1, 0, 0, 0));
        x.put(0, 1, x.pack(1, 1, 0, 1, 1));
        x.put(0, 2, x.pack(1, 1, 0, 1, 2));
        x.put(0, 3, x.pack(1, 1, 0, 2, 2));
        Check.due("none wanted", x.play(0, 0, 0, 0), 0);
        Check.due("none wanted, far off", x.play(0, 99, 0, 0), 0);
        Check.due("two, then TWICE", x.play(0, 0, 4, 0), 2);
        Check.due("taken", x.count(8), 2);
        Check.due("refused", x.count(9), 1);
        Check.due("one, then the end", x.play(0, 3, 2, 0), RunJudge.PLACE);
        Check.due("taken all the same", x.count(8), 3);
        Check.due("the act", x.act(2, 0), 17);
        Check.due("refused as before", x.count(9), 1);
        Check.due("of another player", x.play(0, 0, 2, 1), 2);
        for (int i = 0; i < 3; i++) x.step();
        Check.due("they went", x.body(0, 0), 3);
        x.put(0, 0, x.pack(0, 0, 0, 1, 3));
        Check.due("late: TWICE", x.play(0, 0, 1, 0), 0);
        x.put(0, 0, x.pack(1, 0, 0, 2, 2));
        Check.due("going back", x.play(0, 0, 1, 1), 1);
        Check.due("one going back", x.back(0), 1);
        Check.due("the host's refusals", x.count(10), 1);
    }

    private static void playRefused() {
        Judge x = new Judge();
        x.tape(0, 4, 4);
        x.tape(1, 3, 4);
        x.view(2, 0);
        Check.due("tape 6", x.play(6, 0, 1, 0), RunJudge.NONE);
        Check.due("tape -1", x.play(-1, 0, 1, 0), RunJudge.NONE);
        Check.due("player 2", x.play(0, 0, 1, 2), RunJudge.NONE);
        Check.due("player -1", x.play(0, 0, 1, -1), RunJudge.NONE);
        Check.due("n -1", x.play(0, 0, -1, 0), RunJudge.NONE);
        Check.due("n 81", x.play(0, 0, 81, 0), RunJudge.NONE);
        Check.due("none ahead of nothing", x.play(5, 0, 81, 0), RunJudge.NONE);
        Check.due("these are no letters refused", x.count(9), 0);
        Check.due("nothing", x.play(5, 0, 1, 0), RunJudge.NOTHING);
        Check.due("nothing, even if none is wanted", x.play(5, 0, 0, 0), RunJudge.NOTHING);
        Check.due("ints", x.play(1, 0, 1, 0), RunJudge.CAST);
        Check.due("a view", x.play(2, 0, 1, 0), RunJudge.CAST);
        Check.due("place 4", x.play(0, 4, 1, 0), RunJudge.PLACE);
        Check.due("place -1", x.play(0, -1, 1, 0), RunJudge.PLACE);
        Check.due("place far off", x.play(0, Integer.MAX_VALUE, 2, 0), RunJudge.PLACE);
        Check.due("the host's refusals", x.count(10), 7);
        Check.due("no letters", x.count(8) + x.count(9), 0);
    }

    private static void viewAndKept() {
        Check.Game g = new Check.Game(5, 4, 2);
        g.x.wall(1);
        g.x.place(3, 5);
        Check.due("view(0, 0)", g.x.view(0, 0), 15);
        int seen = 0;
        int[] told = new int[20];
        for (int c = 0; c < 20; c++) {
            told[c] = g.x.told(0, c);
            seen += g.x.sees(0, c);
        }
        Check.due("as many as it sees", seen, 15);
        g.doNow(0, Check.STEP, Check.DOWN);
        Check.due("told otherwise now", g.x.told(0, 0), 0);
        Check.due("and then", told[0], 8);
        g.x.begin(3, 3, 1);
        for (int c = 0; c < 20; c++) Check.due("kept(0, " + c + ")", g.x.kept(0, c), told[c]);
        Check.due("that world's last cell was 19", g.x.kept(0, 20), RunJudge.PLACE);
        Check.due("cell -1", g.x.kept(0, -1), RunJudge.PLACE);
        Check.due("toss", g.x.toss(0), 15);
        Check.due("toss again", g.x.toss(0), 15);
        Check.due("view of a smaller world", g.x.view(1, 0), 9);
        Check.due("it has 9 cells", g.x.kept(1, 9), RunJudge.PLACE);
        g.x.tape(2, 3, 20);
        Check.due("kept of a row", g.x.kept(2, 0), RunJudge.CAST);
        Check.due("toss of a row", g.x.toss(2), RunJudge.CAST);
        Check.due("kept of nothing", g.x.kept(3, 0), RunJudge.NOTHING);
        Check.due("toss of nothing", g.x.toss(3), RunJudge.NOTHING);
        Check.due("kept of tape 6", g.x.kept(6, 0), RunJudge.NONE);
        Check.due("kept of tape -1", g.x.kept(-1, 0), RunJudge.NONE);
        Check.due("toss of tape 6", g.x.toss(6), RunJudge.NONE);
        Check.due("toss of tape -1", g.x.toss(-1), RunJudge.NONE);
        Check.due("view on tape 6", g.x.view(6, 0), RunJudge.NONE);
        Check.due("view on tape -1", g.x.view(-1, 0), RunJudge.NONE);
        Check.due("view of player 1", g.x.view(0, 1), RunJudge.NONE);
        Check.due("view of player -1", g.x.view(0, -1), RunJudge.NONE);
        Check.due("the host's refusals", g.x.count(10), 7);
    }

    private static void viewOfTheDead() {
        Check.Game g = new Check.Game(3, 3, 1);
        for (int i = 0; i < 3; i++) g.x.place(4, 1);
        g.doNow(0, Check.STEP, Check.RIGHT);
        Check.due("it tells of none", g.x.view(0, 0), 0);
        Check.due("toss", g.x.toss(0), RunJudge.THROWN);
        Check.due("kept", g.x.kept(0, 1), -1);
        Check.due("kept(9)", g.x.kept(0, 9), RunJudge.PLACE);
        Check.due("the host's refusals", g.x.count(10), 2);
    }

    private static void clear() {
        Judge x = new Judge();
        for (int sort = 1; sort <= 4; sort++) {
            x.tape(sort, sort, 2);
            Check.due("clear " + sort, x.clear(sort), sort);
            Check.due("again", x.clear(sort), 0);
            Check.due("holds nothing", x.put(sort, 0, 1), RunJudge.NOTHING);
        }
        x.view(0, 0);
        Check.due("clear a view", x.clear(0), 5);
        Check.due("holds nothing", x.kept(0, 0), RunJudge.NOTHING);
        Check.due("clear(-1)", x.clear(-1), RunJudge.NONE);
        Check.due("clear(6)", x.clear(6), RunJudge.NONE);
        x.tape(0, 4, 3);
        x.put(0, 0, 9);
        x.view(0, 0);
        x.tape(0, 4, 3);
        Check.due("a new row is all 0", x.at(0, 0), 0);
    }

    private static void count() {
        Judge x = new Judge();
        x.begin(4, 6, 3);
        x.door(5, 1);
        x.place(1, 9);
        x.late(7);
        x.risk(12);
        x.feed(0, x.pack(0, 0, 0, 0, 0));
        x.feed(0, x.pack(0, 0, 0, 0, 0));
        x.feed(9, 0);
        x.step();
        x.step();
        x.toss(0);
        int[] want = {4, 6, 3, 4, 1, 2, 7, 12, 1, 2, 1};
        for (int i = 0; i < want.length; i++) Check.due("count(" + i + ")", x.count(i), want[i]);
        int[] wrong = {-1, 11, Integer.MAX_VALUE, Integer.MIN_VALUE};
        for (int w : wrong) Check.due("count(" + w + ")", x.count(w), RunJudge.NONE);
    }
}
