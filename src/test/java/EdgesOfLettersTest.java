/** The boundary cases of a letter's BITS (part IV) and of promises 9 and 10, a test for each sentence. */
public final class EdgesOfLettersTest extends Check {
    public static void main(String[] args) {
        packLaysTheBits();
        packTakesLowBits();
        packIsTaken();
        sumGoesRound();
        feedHasPlayers();
        highBitsAreGarbled();
        wrongSumsAreGarbled();
        kindsAboveSix();
        wordsAreForOpen();
        directionsAreForFour();
        seqIsTheNext();
        seqGoesRound();
        seqCountsTakenLettersAlone();
        lateForEveryLate();
        lateAtTheBeginning();
        earlyByThree();
        earlyAtTheEnd();
        twiceForTheTick();
        deadAtTheTick();
        deadAtNow();
        deadByAGoingBack();
        craftedUpToNow();
        craftedShot();
        craftedOpen();
        craftedTake();
        craftedPutAndThrow();
        craftedByTheStateAtTheTick();
        goesBackSoFar();
        end("EdgesOfLettersTest");
    }

    // ---- BITS

    private static void packLaysTheBits() {
        sentence("A letter's BITS: 0 .. 3 the ACT's kind, 4 and 5 d, 6 .. 9 w, 10 .. 25 the tick, 26 .. 33 SEQ, 34 .. 41 the SUM");
        Judge x = new Judge();
        due("nothing", x.pack(0, 0, 0, 0, 0), 0);
        for (int bit = 0; bit < 4; bit++) due("kind", x.pack(1 << bit, 0, 0, 0, 0), (1L << bit) + ((1L << bit) << 34));
        for (int bit = 0; bit < 2; bit++) due("d", x.pack(0, 1 << bit, 0, 0, 0), (16L << bit) + ((3L << bit) << 34));
        for (int bit = 0; bit < 4; bit++) due("w", x.pack(0, 0, 1 << bit, 0, 0), (64L << bit) + ((5L << bit) << 34));
        for (int bit = 0; bit < 16; bit++) {
            due("tick", x.pack(0, 0, 0, 1 << bit, 0), (1024L << bit) + ((7L << bit) % 256 << 34));
        }
        for (int bit = 0; bit < 8; bit++) {
            due("seq", x.pack(0, 0, 0, 0, 1 << bit), (1L << 26 + bit) + ((11L << bit) % 256 << 34));
        }
    }

    private static void packTakesLowBits() {
        sentence("of each number only as many low bits are taken as it has room");
        Judge x = new Judge();
        int[] room = {16, 4, 16, 65536, 256};
        for (int i = 0; i < 5; i++) {
            int[] most = new int[5];
            most[i] = room[i] - 1;
            long full = x.pack(most[0], most[1], most[2], most[3], most[4]);
            due("the most there is room for", full, bits(most[0], most[1], most[2], most[3], most[4]));
            int[] same = {-1, MAX, 2 * room[i] - 1, -room[i] - 1};
            for (int n : same) {
                most[i] = n;
                due(n + " is cut", x.pack(most[0], most[1], most[2], most[3], most[4]), full);
            }
            int[] nought = {room[i], -room[i], MIN};
            for (int n : nought) {
                most[i] = n;
                due(n + " is cut to 0", x.pack(most[0], most[1], most[2], most[3], most[4]), 0);
            }
        }
        due("all at once", x.pack(-1, -1, -1, -1, -1), bits(15, 3, 15, 65535, 255));
        due("all others 0", x.pack(-1, -1, -1, -1, -1) >>> 42, 0);
    }

    private static void packIsTaken() {
        sentence("The BITS of a letter with the right SUM");
        Judge x = new Judge();
        int[][] acts = {{WAIT, 0, 0}, {STEP, 3, 0}, {SHOT, 2, 0}, {OPEN, 3, 15}, {TAKE, 0, 0}, {PUT, 0, 0}, {THROW, 1, 0}};
        int seq = 0;
        for (int[] a : acts) {
            int t = x.now + 1;
            due("kind " + a[0], x.feed(0, x.pack(a[0], a[1], a[2], t, seq++)), 0);
            due("its act", x.act(t, 0), a[0] + 16 * a[1] + 64 * a[2]);
            x.step();
        }
    }

    private static void sumGoesRound() {
        sentence("the SUM: kind + 3 d + 5 w + 7 tick + 11 SEQ modulo 256; all others 0");
        Judge x = new Judge();
        due("255", x.pack(0, 1, 0, 36, 0) >>> 34, 255);
        due("256 is 0", x.pack(4, 0, 0, 36, 0) >>> 34, 0);
        due("257 is 1", x.pack(5, 0, 0, 36, 0) >>> 34, 1);
        due("many times round", x.pack(6, 3, 15, 65535, 255) >>> 34, (6 + 9 + 75 + 7 * 65535 + 11 * 255) % 256);
    }

    // ---- NONE and GARBLED

    private static void feedHasPlayers() {
        sentence("NONE: no such player; GARBLED: a bit above 41 is set, or the SUM is wrong");
        for (int players = 1; players <= 4; players++) {
            Game g = new Game(3, 3, players);
            int[] none = {-1, players, 4, MIN, MAX};
            for (int p : none) due("player " + p, g.x.feed(p, bits(WAIT, 0, 0, 0, 0)), NONE);
            for (int p = 0; p < players; p++) due("player " + p, g.x.feed(p, bits(WAIT, 0, 0, 0, 0)), 0);
        }
    }

    private static void highBitsAreGarbled() {
        sentence("GARBLED: a bit above 41 is set, or the SUM is wrong");
        Judge x = new Judge();
        long good = bits(STEP, DOWN, 0, 0, 0);
        for (int bit = 42; bit < 64; bit++) due("bit " + bit, x.feed(0, good | 1L << bit), GARBLED);
        due("all of them", x.feed(0, good | -1L << 42), GARBLED);
        due("-1", x.feed(0, -1), GARBLED);
        due("the least long", x.feed(0, Long.MIN_VALUE), GARBLED);
        due("the greatest long", x.feed(0, Long.MAX_VALUE), GARBLED);
        due("no bit above 41", x.feed(0, good), 0);
    }

    private static void wrongSumsAreGarbled() {
        sentence("GARBLED: a bit above 41 is set, or the SUM is wrong");
        Judge x = new Judge();
        long good = bits(STEP, DOWN, 0, 0, 0);
        for (int bit = 34; bit < 42; bit++) due("sum's bit " + bit, x.feed(0, good ^ 1L << bit), GARBLED);
        due("sum 1 more", x.feed(0, good + (1L << 34)), GARBLED);
        due("sum 1 less", x.feed(0, good - (1L << 34)), GARBLED);
        for (int bit = 0; bit < 18; bit++) due("bit " + bit, x.feed(0, good ^ 1L << bit), GARBLED);
        for (int bit = 26; bit < 34; bit++) due("bit " + bit, x.feed(0, good ^ 1L << bit), GARBLED);
        due("256 more in the tick leave the sum as it is", x.feed(0, good ^ 1L << 18), EARLY);
        due("nothing was taken", x.count(8), 0);
        due("the right sum", x.feed(0, good), 0);
        Judge y = new Judge();
        due("a sum of 255 + 1", y.feed(0, 7L + (7L << 34)), KIND);
    }

    // ---- KIND

    private static void kindsAboveSix() {
        sentence("KIND: the kind is above 6, or w is not 0 and it is no OPEN, or d is not 0 and it is WAIT, TAKE or PUT");
        for (int kind = 0; kind < 16; kind++) {
            Game g = new Game(3, 3, 1);
            due("kind " + kind, g.send(0, kind, 0, 0, 1), kind <= 6 ? 0 : KIND);
        }
    }

    private static void wordsAreForOpen() {
        sentence("KIND: the kind is above 6, or w is not 0 and it is no OPEN, or d is not 0 and it is WAIT, TAKE or PUT");
        int[] words = {1, 2, 4, 8, 15};
        for (int kind = 0; kind <= 6; kind++) {
            for (int w : words) {
                Game g = new Game(3, 3, 1);
                due("kind " + kind + ", word " + w, g.send(0, kind, 0, w, 1), kind == OPEN ? 0 : KIND);
            }
        }
    }

    private static void directionsAreForFour() {
        sentence("KIND: the kind is above 6, or w is not 0 and it is no OPEN, or d is not 0 and it is WAIT, TAKE or PUT");
        for (int kind = 0; kind <= 6; kind++) {
            boolean free = kind == STEP || kind == SHOT || kind == OPEN || kind == THROW;
            for (int d = 0; d < 4; d++) {
                Game g = new Game(3, 3, 1);
                due("kind " + kind + ", d " + d, g.send(0, kind, d, 0, 1), free || d == 0 ? 0 : KIND);
            }
        }
    }

    // ---- SEQ

    private static void seqIsTheNext() {
        sentence("SEQ: it is not the next one");
        Judge x = new Judge();
        int[] wrong = {1, 2, 128, 254, 255};
        for (int s : wrong) due("seq " + s + " first", x.feed(0, bits(WAIT, 0, 0, 0, s)), SEQ);
        for (int s = 0; s < 3; s++) {
            due("one too far", x.feed(0, bits(WAIT, 0, 0, s, s + 1)), SEQ);
            if (s > 0) due("the one ahead", x.feed(0, bits(WAIT, 0, 0, s, s - 1)), SEQ);
            due("the next", x.feed(0, bits(WAIT, 0, 0, s, s)), 0);
        }
        due("each player has its own", x.feed(1, bits(WAIT, 0, 0, 0, 0)), 0);
    }

    private static void seqGoesRound() {
        sentence("A player's next SEQ is 0 at first, then 1 .. 255, then 0 again, one more for each ACT that is taken");
        Judge x = new Judge();
        for (int t = 0; t <= 256; t++) {
            due("seq " + t % 256, x.feed(0, bits(WAIT, 0, 0, t, t % 256)), 0);
            if (t > 1 && t < 256) x.step();
        }
        Judge y = new Judge();
        for (int t = 0; t <= 255; t++) {
            y.feed(0, bits(WAIT, 0, 0, t, t));
            if (t > 1 && t < 255) y.step();
        }
        due("behind 255 not 255 again", y.feed(0, bits(WAIT, 0, 0, 254, 255)), SEQ);
        due("nor 1", y.feed(0, bits(WAIT, 0, 0, 254, 1)), SEQ);
    }

    private static void seqCountsTakenLettersAlone() {
        sentence("one more for each ACT that is taken");
        Game g = new Game(3, 3, 2);
        g.steps(5);
        Judge x = g.x;
        due("LATE", x.feed(0, bits(WAIT, 0, 0, 0, 0)), LATE);
        due("EARLY", x.feed(0, bits(WAIT, 0, 0, 8, 0)), EARLY);
        due("CRAFTED", x.feed(0, bits(PUT, 0, 0, 5, 0)), CRAFTED);
        due("KIND", x.feed(0, bits(7, 0, 0, 5, 0)), KIND);
        due("GARBLED", x.feed(0, bits(WAIT, 0, 0, 5, 0) + 1), GARBLED);
        due("0 is still next", x.feed(0, bits(WAIT, 0, 0, 5, 0)), 0);
        due("TWICE", x.feed(0, bits(WAIT, 0, 0, 5, 1)), TWICE);
        due("1 is still next", x.feed(0, bits(WAIT, 0, 0, 4, 1)), 1);
        due("and then 2", x.feed(0, bits(WAIT, 0, 0, 3, 2)), 2);
        due("the other's stays", x.feed(1, bits(WAIT, 0, 0, 3, 0)), 2);
    }

    // ---- LATE and EARLY

    private static void lateForEveryLate() {
        sentence("LATE: the tick is below NOW - LATE");
        for (int late = 0; late <= 8; late++) {
            Game g = new Game(3, 3, 1);
            g.x.late(late);
            g.steps(12);
            for (int t = 12; t >= 0; t--) {
                due("LATE " + late + ", tick " + t, g.send(0, WAIT, 0, 0, t), t < 12 - late ? LATE : 12 - t);
            }
        }
    }

    private static void lateAtTheBeginning() {
        sentence("LATE: the tick is below NOW - LATE");
        for (int now = 0; now <= 5; now++) {
            Game g = new Game(3, 3, 1);
            g.steps(now);
            due("tick 0 at " + now, g.send(0, WAIT, 0, 0, 0), now <= 4 ? now : LATE);
        }
    }

    private static void earlyByThree() {
        sentence("EARLY: it is above NOW + 2, or above 499");
        for (int now = 0; now < 4; now++) {
            for (int ahead = 0; ahead <= 4; ahead++) {
                Game g = new Game(3, 3, 1);
                g.steps(now);
                due(ahead + " ahead", g.send(0, WAIT, 0, 0, now + ahead), ahead <= 2 ? 0 : EARLY);
            }
        }
        Game h = new Game(3, 3, 1);
        int[] far = {256, 499, 500, 32768, 65535};
        for (int t : far) due("tick " + t, h.send(0, WAIT, 0, 0, t), EARLY);
    }

    private static void earlyAtTheEnd() {
        sentence("EARLY: it is above NOW + 2, or above 499");
        Game g = new Game(3, 3, 2);
        g.stepsTo(497);
        due("499 at 497", g.send(0, WAIT, 0, 0, 499), 0);
        due("500 at 497", g.send(1, WAIT, 0, 0, 500), EARLY);
        g.steps(1);
        due("500 at 498", g.send(1, WAIT, 0, 0, 500), EARLY);
        due("499 at 498", g.send(1, WAIT, 0, 0, 499), 0);
        g.steps(2);
        due("500 at 500", g.send(1, WAIT, 0, 0, 500), EARLY);
        due("501 at 500", g.send(1, WAIT, 0, 0, 501), EARLY);
        due("498 at 500", g.send(1, WAIT, 0, 0, 498), 2);
        due("495 at 500", g.send(1, WAIT, 0, 0, 495), LATE);
    }

    // ---- TWICE and DEAD

    private static void twiceForTheTick() {
        sentence("TWICE: there is an ACT of that player and tick");
        Game g = new Game(3, 3, 2);
        for (int t = 0; t <= 2; t++) {
            due("first", g.send(0, WAIT, 0, 0, t), 0);
            due("a wait, too, is an act", g.send(0, STEP, RIGHT, 0, t), TWICE);
        }
        g.steps(2);
        for (int t = 0; t <= 2; t++) {
            due("later, too", g.send(0, STEP, RIGHT, 0, t), TWICE);
            due("of the other there is none", g.send(1, STEP, LEFT, 0, t), 2 - t);
        }
        due("of tick 3 there is none", g.send(0, STEP, RIGHT, 0, 3), 0);
    }

    /** Player 0 has 3 LIFE at 1, 1 at 2 and none from the STATE at 3 on. */
    private static Game dying() {
        Game g = new Game(6, 3, 2);
        g.places(TRAP, 1, 2, 3);
        g.sendsEarly(0, STEP, RIGHT, 0, 1);
        g.does(0, STEP, RIGHT);
        g.sendsEarly(0, STEP, RIGHT, 0, 2);
        g.steps(2);
        return g;
    }

    private static void deadAtTheTick() {
        sentence("DEAD: at the STATE of the lesser of the tick and NOW the BODY has no LIFE");
        Game g = new Game(6, 3, 1);
        g.places(TRAP, 1, 2, 3);
        g.steps(1);
        for (int i = 0; i < 3; i++) g.doNow(0, STEP, RIGHT);
        g.steps(1);
        due("dead", g.x.body(0, 1), 0);
        due("at 4 it had none", g.send(0, WAIT, 0, 0, 4), DEAD);
        due("at 5, which is now", g.send(0, WAIT, 0, 0, 5), DEAD);
        due("there is an act of 3", g.send(0, WAIT, 0, 0, 3), TWICE);
        Game h = new Game(6, 3, 1);
        h.places(TRAP, 1, 2, 3);
        h.doNow(0, STEP, RIGHT);
        h.doNow(0, STEP, RIGHT);
        h.steps(1);
        h.doNow(0, STEP, RIGHT);
        due("dead from 4 on", h.x.body(0, 1), 0);
        due("4 it may not", h.send(0, WAIT, 0, 0, 4), DEAD);
        due("2 it may: it had 1 then", h.send(0, WAIT, 0, 0, 2), 2);
    }

    private static void deadAtNow() {
        sentence("DEAD: at the STATE of the lesser of the tick and NOW the BODY has no LIFE");
        Game g = dying();
        due("at 2 it has 1", g.x.body(0, 1), 1);
        due("so it may for 3 and 4", g.send(0, WAIT, 0, 0, 4), 0);
        g.steps(1);
        due("at 3 it has none", g.x.body(0, 1), 0);
        due("so it may not for 3", g.send(0, WAIT, 0, 0, 3), DEAD);
        due("nor for 5", g.send(0, WAIT, 0, 0, 5), DEAD);
        due("there is one of 4", g.send(0, WAIT, 0, 0, 4), TWICE);
    }

    private static void deadByAGoingBack() {
        sentence("DEAD: at the STATE of the lesser of the tick and NOW the BODY has no LIFE");
        Game g = new Game(6, 3, 1);
        g.places(TRAP, 1, 1, 1);
        g.steps(3);
        due("it lives", g.x.body(0, 1), 5);
        due("it died in tick 1", g.send(0, STEP, RIGHT, 0, 1), 2);
        due("2 comes too late for it", g.send(0, WAIT, 0, 0, 2), DEAD);
        due("0 doesn't", g.send(0, WAIT, 0, 0, 0), 3);
    }

    // ---- CRAFTED

    private static void craftedUpToNow() {
        sentence("CRAFTED (asked only for ticks up to NOW, by the STATE at the tick)");
        for (int ahead = -2; ahead <= 2; ahead++) {
            Game g = new Game(3, 3, 1);
            g.steps(3);
            due("a put of nothing, " + ahead, g.send(0, PUT, 0, 0, 3 + ahead), ahead <= 0 ? CRAFTED : 0);
        }
    }

    private static void craftedShot() {
        sentence("a SHOT with REST above 0");
        for (int wait = 0; wait <= 3; wait++) {
            Game g = new Game(3, 3, 1);
            g.doNow(0, SHOT, UP);
            g.steps(wait);
            due("rest", g.x.body(0, 3), Math.max(0, 2 - wait));
            due("a shot", g.send(0, SHOT, UP, 0, g.x.now), wait < 2 ? CRAFTED : 0);
            due("a step is none", g.send(0, STEP, UP, 0, g.x.now), wait < 2 ? 0 : TWICE);
        }
    }

    private static void craftedOpen() {
        sentence("an OPEN without a DOOR next in d");
        Game g = new Game(3, 3, 4);
        g.x.door(1, 4);
        g.walls(3);
        g.x.plate(5, 0);
        due("at the edge", g.send(0, OPEN, UP, 4, 0), CRAFTED);
        due("at a wall", g.send(0, OPEN, DOWN, 4, 0), CRAFTED);
        due("at a plate", g.send(2, OPEN, DOWN, 4, 0), CRAFTED);
        due("at a floor", g.send(1, OPEN, LEFT, 4, 0), CRAFTED);
        due("a door two cells off", g.send(3, OPEN, UP, 4, 0), CRAFTED);
        due("a door", g.send(0, OPEN, RIGHT, 4, 0), 0);
        due("with a wrong word", g.send(2, OPEN, LEFT, 5, 0), 0);
        g.steps(1);
        due("a door that is open", g.send(0, OPEN, RIGHT, 4, 1), 0);
    }

    private static void craftedTake() {
        sentence("a TAKE when something is carried");
        Game g = new Game(3, 3, 1);
        g.places(LAMP, 0, 0);
        due("nothing is carried", g.send(0, TAKE, 0, 0, 0), 0);
        g.steps(1);
        due("a lamp is", g.send(0, TAKE, 0, 0, 1), CRAFTED);
        g.doNow(0, PUT, 0);
        due("put", g.send(0, TAKE, 0, 0, 2), 0);
        Game h = new Game(3, 3, 1);
        due("where nothing lies", h.send(0, TAKE, 0, 0, 0), 0);
    }

    private static void craftedPutAndThrow() {
        sentence("a PUT when nothing is, a THROW when no STONE is");
        Game g = new Game(3, 3, 1);
        due("a put of nothing", g.send(0, PUT, 0, 0, 0), CRAFTED);
        due("a throw of nothing", g.send(0, THROW, RIGHT, 0, 0), CRAFTED);
        for (int kind = STONE; kind <= CROWN; kind++) {
            Game h = new Game(3, 3, 1);
            h.places(kind, 0);
            h.doNow(0, TAKE, 0);
            due("a throw", h.send(0, THROW, RIGHT, 0, 1), kind == STONE ? 0 : CRAFTED);
            Game k = new Game(3, 3, 1);
            k.places(kind, 0);
            k.doNow(0, TAKE, 0);
            due("a put", k.send(0, PUT, 0, 0, 1), 0);
        }
    }

    /** A STONE is carried in the STATES at 2 and 3 alone, and there is REST at 5 and 6 alone. */
    private static Game carriedForAWhile() {
        Game g = new Game(3, 3, 1);
        g.x.late(8);
        g.places(STONE, 0);
        g.steps(1);
        g.doNow(0, TAKE, 0);
        g.steps(1);
        g.doNow(0, PUT, 0);
        g.doNow(0, SHOT, UP);
        g.steps(3);
        return g;
    }

    private static void craftedByTheStateAtTheTick() {
        sentence("CRAFTED (asked only for ticks up to NOW, by the STATE at the tick)");
        int[] takes = {0, 0, CRAFTED, CRAFTED, 0, 0, 0, 0, 0};
        int[] puts = {CRAFTED, CRAFTED, 0, 0, CRAFTED, CRAFTED, CRAFTED, CRAFTED, CRAFTED};
        int[] shots = {0, 0, 0, 0, 0, CRAFTED, CRAFTED, 0, 0};
        int[] free = {0, 2, 5, 6, 7, 8};
        for (int t : free) {
            due("take " + t, carriedForAWhile().send(0, TAKE, 0, 0, t), takes[t] < 0 ? CRAFTED : 8 - t);
            due("put " + t, carriedForAWhile().send(0, PUT, 0, 0, t), puts[t] < 0 ? CRAFTED : 8 - t);
            due("throw " + t, carriedForAWhile().send(0, THROW, UP, 0, t), puts[t] < 0 ? CRAFTED : 8 - t);
            due("shot " + t, carriedForAWhile().send(0, SHOT, UP, 0, t), shots[t] < 0 ? CRAFTED : 8 - t);
        }
    }

    private static void goesBackSoFar() {
        sentence("Taken: by how many ticks the host goes back (0: none)");
        Game g = new Game(3, 3, 1);
        g.x.late(8);
        g.steps(8);
        for (int t = 0; t <= 10; t++) due("tick " + t, g.send(0, WAIT, 0, 0, t), Math.max(0, 8 - t));
    }
}
