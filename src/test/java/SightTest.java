/** Promises 15 to 18: sees, told, letter, digest. */
public final class SightTest {
    public static void main(String[] args) {
        reach();
        lamp();
        rays();
        doors();
        told();
        letter();
        letterOfTheDead();
        digest();
        windows();
        wrongNumbers();
        Check.end("SightTest");
    }

    private static void seen(String what, Judge x, String cells) {
        for (int c = 0; c < cells.length(); c++) Check.due(what + ", cell " + c, x.sees(0, c), cells.charAt(c) - '0');
    }

    private static void reach() {
        Judge x = new Judge();
        x.begin(6, 6, 1);
        seen("four each way", x, "111110" + "111110" + "111110" + "111110" + "111110" + "000000");
    }

    private static void lamp() {
        Check.Game g = new Check.Game(10, 3, 1);
        g.x.place(6, 0);
        Check.due("five away", g.x.sees(0, 5), 0);
        g.doNow(0, Check.TAKE, 0);
        Check.due("six away, with a lamp", g.x.sees(0, 26), 1);
        Check.due("seven away", g.x.sees(0, 7), 0);
        g.doNow(0, Check.PUT, 0);
        Check.due("five away, without", g.x.sees(0, 5), 0);
        Check.Game h = new Check.Game(10, 3, 1);
        h.x.place(5, 0);
        h.doNow(0, Check.TAKE, 0);
        Check.due("a stone is no lamp", h.x.sees(0, 5), 0);
    }

    private static void rays() {
        Judge x = new Judge();
        x.begin(5, 5, 1);
        x.wall(6);
        // to (2, 1) and (1, 2) the half is rounded up: through (1, 1); to (3, 1) through (1, 0) and (2, 1)
        seen("a wall aslant", x, "11111" + "11011" + "10000" + "11000" + "11000");
        x.wall(6);
        x.wall(1);
        seen("a wall beside", x, "11000" + "11100" + "11111" + "11111" + "11111");
    }

    private static void doors() {
        Check.Game g = new Check.Game(5, 3, 1);
        g.x.door(1, 4);
        Check.due("the door itself", g.x.sees(0, 1), 1);
        Check.due("behind a shut door", g.x.sees(0, 2), 0);
        g.send(0, Check.OPEN, Check.RIGHT, 4, 0);
        g.steps(1);
        Check.due("behind an open door", g.x.sees(0, 2), 1);
    }

    private static void told() {
        Check.Game g = new Check.Game(6, 3, 2);
        g.x.wall(7);
        g.x.door(2, 1);
        g.x.plate(6, 0);
        g.x.place(3, 6);
        g.x.place(4, 6);
        g.x.place(5, 0);
        g.x.place(1, 12);
        Check.due("itself and a stone", g.x.told(0, 0), 16);
        Check.due("a wall", g.x.told(0, 7), 1);
        Check.due("a shut door", g.x.told(0, 2), 2);
        Check.due("a plate with a pot, the trap untold", g.x.told(0, 6), 11);
        Check.due("a beast", g.x.told(0, 12), 8);
        Check.due("floor", g.x.told(0, 1), 0);
        Check.due("behind the wall", g.x.told(0, 14), -1);
        Check.due("too far", g.x.told(0, 5), -1);
        Check.due("the other's own cell", g.x.told(1, 17), 8);
        g.doNow(0, Check.TAKE, 0);
        Check.due("what is carried is not told of", g.x.told(0, 0), 8);
    }

    private static void letter() {
        Check.Game g = new Check.Game(3, 3, 1);
        g.x.wall(4);
        g.x.place(3, 1);
        g.x.place(4, 3);
        int want = Check.fold(1, 0, 512 * 5, 1, 1 + 32 * 3, 2, 3, 4 + 128, 6, 5, 0);
        Check.due("letter(0, 0)", g.x.letter(0, 0), want);
        Check.Game h = new Check.Game(3, 3, 1);
        h.x.door(1, 6);
        h.x.plate(0, 0);
        h.x.place(7, 0);
        h.x.place(2, 8);
        h.send(0, Check.TAKE, 0, 0, 0);
        h.send(0, Check.OPEN, Check.RIGHT, 6, 1);
        h.send(0, Check.SHOT, Check.DOWN, 0, 2);
        h.steps(3);
        // the wolf has come to 6 and 3, then bitten twice
        int[] cells = {0 + 128 * 3, 512 * 3, 1 + 128 * 4, 2, 3, 2 + 32 * 2 + 512 * 2, 4, 5, 6, 7, 8, 3 + 8 * 2 + 64 * 2, 1};
        Check.due("life", h.x.body(0, 1), 3);
        Check.due("the wolf", h.x.thing(2, 1), 3);
        Check.due("letter(0, 3)", h.x.letter(0, 3), Check.fold(1, cells));
    }

    private static void letterOfTheDead() {
        Check.Game g = new Check.Game(3, 3, 1);
        for (int i = 0; i < 3; i++) g.x.place(4, 1);
        g.doNow(0, Check.STEP, Check.RIGHT);
        Check.due("0", g.x.letter(0, 1), 0);
        Check.due("not 0 ahead of it", g.x.letter(0, 0) == 0 ? 1 : 0, 0);
        Check.due("told nothing", g.x.told(0, 1), -1);
        Check.due("sees nothing", g.x.sees(0, 1), 0);
    }

    private static void digest() {
        Check.Game g = new Check.Game(4, 3, 2);
        g.x.door(1, 6);
        g.x.door(2, 6);
        g.x.plate(0, 1);
        g.x.place(7, 0);
        g.x.place(3, 4);
        int[] first = {0, 5, 1, 0, 0, 0, 11, 5, 1, 0, 0, 0, 0, 0, 0, 0, 0, 0, 4, 0, 0, 0, 0, 0, 0, 0, 0, 2, 0, 0};
        Check.due("digest(0)", g.x.digest(0), Check.fold(7, first));
        g.send(0, Check.TAKE, 0, 0, 0);
        g.send(1, Check.SHOT, Check.LEFT, 0, 0);
        g.steps(1);
        int[] second = {0, 5, 1, 0, 3, 0, 11, 5, 3, 2, 0, 0, -2, 0, 0, 0, 0, 1, 4, 0, 0, 0, 0, 0, 0, 0, 1, 2, 0, 0};
        Check.due("digest(1)", g.x.digest(1), Check.fold(7, second));
        g.send(0, Check.OPEN, Check.RIGHT, 6, 1);
        g.send(0, Check.STEP, Check.DOWN, 0, 2);
        g.steps(2);
        int[] fourth = {4, 5, 2, 0, 3, 0, 11, 5, 3, 0, 0, 0, -2, 0, 0, 0, 0, 1, -1, 0, 0, 0, 0, 0, 1, 0, 3, 2, 0, 0};
        Check.due("digest(3)", g.x.digest(3), Check.fold(7, fourth));
        Check.due("digest(0) later", g.x.digest(0), Check.fold(7, first));
    }

    private static void windows() {
        Judge x = new Judge();
        int[] digests = new int[13];
        int[] letters = new int[13];
        for (int t = 0; t <= 12; t++) {
            Check.due("one too early", x.digest(t + 1), RunJudge.NONE);
            Check.due("one too early", x.letter(0, t + 1), RunJudge.NONE);
            digests[t] = x.digest(t);
            letters[t] = x.letter(0, t);
            x.feed(0, x.pack(1, t / 6 % 2 == 0 ? 1 : 2, 0, t, t));
            x.step();
        }
        Check.due("now", x.count(5), 13);
        for (int t = 5; t <= 12; t++) {
            Check.due("digest(" + t + ")", x.digest(t), digests[t]);
            Check.due("letter(0, " + t + ")", x.letter(0, t), letters[t]);
        }
        Check.due("nine ago", x.digest(4), RunJudge.NONE);
        Check.due("nine ago", x.letter(0, 4), RunJudge.NONE);
    }

    private static void wrongNumbers() {
        Judge x = new Judge();
        int[] wrong = {-1, 49, Integer.MAX_VALUE, Integer.MIN_VALUE};
        for (int w : wrong) {
            Check.due("sees(0, " + w + ")", x.sees(0, w), RunJudge.NONE);
            Check.due("sees(" + w + ", 0)", x.sees(w, 0), RunJudge.NONE);
            Check.due("told(0, " + w + ")", x.told(0, w), RunJudge.NONE);
            Check.due("told(" + w + ", 0)", x.told(w, 0), RunJudge.NONE);
            Check.due("letter(0, " + w + ")", x.letter(0, w), RunJudge.NONE);
            Check.due("letter(" + w + ", 0)", x.letter(w, 0), RunJudge.NONE);
            Check.due("digest(" + w + ")", x.digest(w), RunJudge.NONE);
        }
        Check.due("letter(2, 0)", x.letter(2, 0), RunJudge.NONE);
        Check.due("told(2, 0)", x.told(2, 0), RunJudge.NONE);
    }
}
