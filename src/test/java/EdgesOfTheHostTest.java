/** The boundary cases of part IV's GOING BACK and of promises 19 to 24, a test for each sentence. */
public final class EdgesOfTheHostTest extends Check {
    public static void main(String[] args) {
        hostAtFirst();
        oneActAtMost();
        putInBelowNow();
        worksAnewFromTheTick();
        hitsAsNowWorked();
        takenBackInTheTickItself();
        takenBackInTheLastTick();
        notTakenBackAheadOfTheTick();
        newHitsAreNotTakenBack();
        sameHitIsNotTakenBack();
        anotherThingIsTakenBack();
        takenBackOfEachPlayer();
        takenBackInOrder();
        takenBackTwice();
        sixtyFourAreNoted();
        replayHasTicks();
        replayLeavesAll();
        replayByActsThatCameLate();
        replayAtTheEnd();
        fallAtEveryTick();
        fallKeepsHitsAndNotes();
        actHasTicksAndPlayers();
        actTells();
        actOfTheRefused();
        hitHasTicksAndPlayers();
        takenHasNumbers();
        backHasNumbers();
        backCounts();
        end("EdgesOfTheHostTest");
    }

    private static void hostAtFirst() {
        sentence("THE HOST is at tick NOW (0 at first) and has the ACTS of each player and tick, one at most");
        Judge x = new Judge();
        due("now", x.count(5), 0);
        due("no act", x.act(0, 0), NO_ACT);
        due("no hit yet", x.hit(0, 0), NONE);
        sentence("LATE is 0 .. 8 (4 at first)");
        due("late", x.count(6), 4);
    }

    private static void oneActAtMost() {
        sentence("has the ACTS of each player and tick, one at most");
        Game g = new Game(3, 3, 2);
        g.does(0, STEP, RIGHT);
        due("a second", g.send(0, STEP, DOWN, 0, 0), TWICE);
        due("the first stays", g.x.act(0, 0), STEP + 16 * RIGHT);
        g.steps(1);
        due("and is done", g.x.body(0, 0), 1);
    }

    private static void putInBelowNow() {
        sentence("Taken for a tick t below NOW, the ACT is put in");
        Game g = new Game(3, 3, 2);
        g.steps(2);
        due("for now", g.send(0, STEP, RIGHT, 0, 2), 0);
        due("no going back", g.x.back(0), 0);
        due("for one later", g.send(0, STEP, RIGHT, 0, 3), 0);
        due("no going back", g.x.back(0), 0);
        due("nothing is done yet", g.x.body(0, 0), 0);
        due("for one below", g.send(0, STEP, RIGHT, 0, 1), 1);
        due("a going back", g.x.back(0), 1);
        due("it is done", g.x.body(0, 0), 1);
    }

    private static void worksAnewFromTheTick() {
        sentence("the STATES from t + 1 to NOW are worked anew (a GOING BACK of NOW - t ticks)");
        Game g = new Game(7, 3, 1);
        g.x.late(8);
        g.steps(8);
        int[] waited = new int[9];
        for (int t = 0; t <= 8; t++) waited[t] = g.x.digest(t);
        due("five back", g.send(0, STEP, RIGHT, 0, 3), 5);
        for (int t = 0; t <= 8; t++) due("as it was up to 3, tick " + t, g.x.digest(t) == waited[t] ? 1 : 0, t <= 3 ? 1 : 0);
        for (int t = 0; t <= 8; t++) due("as worked from 0, tick " + t, g.x.digest(t), g.x.replay(t));
        due("eight back", g.send(0, STEP, DOWN, 0, 0), 8);
        due("both steps", g.x.body(0, 0), 8);
        for (int t = 0; t <= 8; t++) due("as worked from 0, tick " + t, g.x.digest(t), g.x.replay(t));
    }

    /** Player 0 stays in CELL 0; player 1, in CELL 2 from the STATE at 2 on, shoots it in these ticks. */
    private static Game shooting(int late, int... ticks) {
        Game g = new Game(3, 3, 2);
        g.x.late(late);
        g.doNow(1, STEP, UP);
        g.doNow(1, STEP, UP);
        for (int t : ticks) {
            g.stepsTo(t);
            g.doNow(1, SHOT, LEFT);
            due("a hit", g.x.hit(t, 1), 1);
        }
        return g;
    }

    private static void row(String what, Game g, int i, int... want) {
        for (int k = 0; k < 4; k++) due(what + ", what " + k, g.x.taken(i, k), want[k]);
    }

    private static void hitsAsNowWorked() {
        sentence("HITS are, for each tick and player, those of the STATES as now worked");
        Game g = shooting(8, 3, 6);
        due("gone ahead of both", g.send(0, STEP, DOWN, 0, 2), 5);
        due("no hit", g.x.hit(3, 1) + g.x.hit(6, 1), 0);
        due("back again ahead of the second", g.send(0, STEP, UP, 0, 5), 2);
        due("no hit", g.x.hit(3, 1), 0);
        due("a hit", g.x.hit(6, 1), 1);
        due("life", g.x.body(0, 1), 4);
    }

    private static void takenBackInTheTickItself() {
        sentence("A HIT of a tick t .. NOW - 1 that was there ahead of it, and now isn't, or is of another THING, is TAKEN BACK");
        Game g = shooting(4, 4);
        due("tick 4 begins with player 0, who is gone", g.send(0, STEP, DOWN, 0, 4), 1);
        due("no hit", g.x.hit(4, 1), 0);
        row("tick 4 itself", g, 0, 4, 1, 0, 5);
        due("one alone", g.x.taken(1, 0), NONE);
        Game h = shooting(4, 3);
        due("tick 3 begins with player 1", h.send(0, STEP, DOWN, 0, 3), 1);
        due("the hit stays", h.x.hit(3, 1), 1);
        due("none is taken back", h.x.back(3), 0);
    }

    private static void takenBackInTheLastTick() {
        sentence("A HIT of a tick t .. NOW - 1 that was there ahead of it, and now isn't, or is of another THING, is TAKEN BACK");
        Game g = shooting(8, 9);
        due("eight back", g.send(0, STEP, DOWN, 0, 2), 8);
        row("tick NOW - 1", g, 0, 9, 1, 0, 10);
    }

    private static void notTakenBackAheadOfTheTick() {
        sentence("A HIT of a tick t .. NOW - 1 that was there ahead of it, and now isn't, or is of another THING, is TAKEN BACK");
        Game g = shooting(8, 3, 6);
        due("gone behind the first", g.send(0, STEP, DOWN, 0, 5), 2);
        due("the first stays", g.x.hit(3, 1), 1);
        due("the second alone", g.x.back(3), 1);
        row("the second", g, 0, 6, 1, 0, 7);
    }

    private static void newHitsAreNotTakenBack() {
        sentence("A HIT of a tick t .. NOW - 1 that was there ahead of it, and now isn't, or is of another THING, is TAKEN BACK");
        Game g = shooting(8);
        g.doNow(0, STEP, DOWN);
        g.doNow(1, SHOT, LEFT);
        due("no hit", g.x.hit(3, 1), 0);
        g.steps(2);
        due("a late shot that hits nobody", g.send(1, SHOT, UP, 0, 2), 4);
        due("nothing is taken back", g.x.back(3), 0);
        Game h = shooting(8);
        h.steps(2);
        due("a late shot that hits", h.send(1, SHOT, LEFT, 0, 2), 2);
        due("a hit", h.x.hit(2, 1), 1);
        due("nothing is taken back", h.x.back(3), 0);
        due("life", h.x.body(0, 1), 4);
    }

    private static void sameHitIsNotTakenBack() {
        sentence("A HIT of a tick t .. NOW - 1 that was there ahead of it, and now isn't, or is of another THING, is TAKEN BACK");
        Game g = shooting(8, 3, 6);
        due("nearer, but in the line", g.send(0, STEP, RIGHT, 0, 2), 5);
        due("hit all the same", g.x.hit(3, 1) + g.x.hit(6, 1), 2);
        due("none is taken back", g.x.back(3), 0);
        due("but there was a going back", g.x.back(0), 1);
    }

    private static void anotherThingIsTakenBack() {
        sentence("is TAKEN BACK: noted, in order of ticks, then players, with tick, player, the THING it was, and NOW");
        Game g = new Game(3, 3, 3);
        g.places(STONE, 8);
        g.steps(1);
        g.doNow(2, SHOT, LEFT);
        due("of 0", g.x.hit(1, 2), 1);
        due("1 goes left", g.send(1, STEP, LEFT, 0, 0), 2);
        due("1 goes up in tick 1, first", g.send(1, STEP, UP, 0, 1), 1);
        due("still of 0", g.x.hit(1, 2), 1);
        g.doNow(1, STEP, UP);
        due("1 stands between", g.x.body(1, 0), 1);
        g.steps(1);
        g.doNow(2, SHOT, LEFT);
        due("of 1", g.x.hit(4, 2), 2);
        due("1 was away", g.send(1, STEP, DOWN, 0, 3), 2);
        due("of 0", g.x.hit(4, 2), 1);
        row("it was of 1", g, 0, 4, 2, 1, 5);
        due("lives", g.x.body(0, 1) * 10 + g.x.body(1, 1), 35);
    }

    /** Each shoots along its row at who stands in the other corner, and who then steps out of the line, late. */
    private static void takenBackOfEachPlayer() {
        sentence("is TAKEN BACK: noted, in order of ticks, then players, with tick, player, the THING it was, and NOW");
        int[] victims = {2, 3, 0, 1};
        int[] directions = {RIGHT, LEFT, LEFT, RIGHT};
        for (int p = 0; p < 4; p++) {
            Game g = new Game(3, 3, 4);
            int v = victims[p];
            g.steps(1);
            g.doNow(p, SHOT, directions[p]);
            due("a hit", g.x.hit(1, p), v + 1);
            due("out of the line", g.send(v, STEP, v == 0 || v == 2 ? DOWN : UP, 0, 0), 2);
            due("no hit", g.x.hit(1, p), 0);
            row("of player " + p, g, 0, 1, p, v, 2);
            due("life", g.x.body(v, 1), 5);
        }
    }

    /** Players 2 (in CELL 4) and 3 (in CELL 0) both shoot player 0, between them in CELL 2, in ticks 3 and 6. */
    private static void takenBackInOrder() {
        sentence("noted, in order of ticks, then players, with tick, player, the THING it was, and NOW (the first 64 since begin())");
        Game g = new Game(5, 3, 4);
        g.x.late(8);
        for (int i = 0; i < 2; i++) {
            g.does(0, STEP, RIGHT);
            g.doNow(3, STEP, UP);
        }
        g.stepsTo(3);
        for (int i = 0; i < 2; i++) {
            g.does(3, SHOT, RIGHT);
            g.doNow(2, SHOT, LEFT);
            due("both hit", g.x.hit(g.x.now - 1, 2) + g.x.hit(g.x.now - 1, 3), 2);
            if (i == 0) g.steps(2);
        }
        due("down, out of the line", g.send(0, STEP, DOWN, 0, 2), 5);
        row("first", g, 0, 3, 2, 0, 7);
        row("second", g, 1, 3, 3, 0, 7);
        row("third", g, 2, 6, 2, 0, 7);
        row("fourth", g, 3, 6, 3, 0, 7);
        due("no fifth", g.x.taken(4, 0), NONE);
        due("now they hit one another", g.x.hit(3, 2) * 10 + g.x.hit(3, 3), 43);
    }

    private static void takenBackTwice() {
        sentence("A HIT of a tick t .. NOW - 1 that was there ahead of it, and now isn't, or is of another THING, is TAKEN BACK");
        Game g = shooting(8, 6);
        due("gone", g.send(0, STEP, DOWN, 0, 2), 5);
        due("back", g.send(0, STEP, UP, 0, 3), 4);
        due("a hit again", g.x.hit(6, 1), 1);
        due("gone again", g.send(0, STEP, DOWN, 0, 4), 3);
        row("once", g, 0, 6, 1, 0, 7);
        row("and once more", g, 1, 6, 1, 0, 7);
        due("two", g.x.back(3), 2);
    }

    private static void oneIsTakenBack(Game g) {
        int t = g.x.now;
        g.does(1, SHOT, LEFT);
        g.steps(1);
        due("gone down ahead of it", g.send(0, STEP, DOWN, 0, t - 1), 2);
        due("and up again", g.send(0, STEP, UP, 0, t + 1), 0);
        g.steps(2);
    }

    private static void sixtyFourAreNoted() {
        sentence("(the first 64 since begin())");
        Game g = shooting(4);
        g.steps(1);
        for (int i = 0; i < 64; i++) oneIsTakenBack(g);
        row("the first", g, 0, 3, 1, 0, 4);
        row("the 64th", g, 63, 192, 1, 0, 193);
        due("no 65th", g.x.taken(64, 0), NONE);
        due("64", g.x.back(3), 64);
        oneIsTakenBack(g);
        due("65", g.x.back(3), 65);
        row("the 64th stays", g, 63, 192, 1, 0, 193);
        due("the 65th is not noted", g.x.taken(64, 0), NONE);
        g.x.begin(3, 3, 2);
        due("begun anew", g.x.taken(0, 0), NONE);
        due("begun anew", g.x.back(3), 0);
    }

    // ---- promises 19 and 20

    private static void replayHasTicks() {
        sentence("The DIGEST at a tick, worked from tick 0 on by all ACTS. NONE: t is not 0 .. NOW");
        Game g = new Game(7, 7, 1);
        int[] digests = new int[20];
        int[] none = {-1, MIN, MAX};
        for (int now = 0; now < 13; now++) {
            digests[now] = g.x.digest(now);
            for (int t = 0; t <= now; t++) due("replay(" + t + ") at " + now, g.x.replay(t), digests[t]);
            due("one too far", g.x.replay(now + 1), NONE);
            for (int t : none) due("replay(" + t + ")", g.x.replay(t), NONE);
            g.doNow(0, STEP, now % 2 == 0 ? RIGHT : DOWN);
        }
    }

    private static void replayLeavesAll() {
        sentence("The DIGEST at a tick, worked from tick 0 on by all ACTS");
        Game g = shooting(4, 3);
        g.send(0, STEP, DOWN, 0, 2);
        int digest = g.x.digest(4);
        for (int t = 0; t <= 4; t++) g.x.replay(t);
        due("digest", g.x.digest(4), digest);
        due("now", g.x.count(5), 4);
        due("hit", g.x.hit(3, 1), 0);
        due("no going back", g.x.back(0), 1);
        due("taken back", g.x.back(3), 1);
    }

    private static void replayByActsThatCameLate() {
        sentence("The DIGEST at a tick, worked from tick 0 on by all ACTS");
        Game g = new Game(3, 3, 1);
        g.steps(4);
        int waited = g.x.replay(4);
        g.send(0, STEP, RIGHT, 0, 1);
        due("at 1 as it was", g.x.replay(1), waited);
        due("at 2 it isn't", g.x.replay(2) == waited ? 1 : 0, 0);
        due("at 4", g.x.replay(4), g.x.digest(4));
        g.send(0, STEP, RIGHT, 0, 4);
        due("what is yet to come doesn't count", g.x.replay(4), g.x.digest(4));
    }

    private static void replayAtTheEnd() {
        sentence("NONE: t is not 0 .. NOW");
        Game g = new Game(3, 3, 1);
        g.x.feed(0, bits(STEP, RIGHT, 0, 0, 0));
        g.stepsTo(500);
        due("replay(500)", g.x.replay(500), g.x.digest(500));
        due("replay(501)", g.x.replay(501), NONE);
        due("replay(1)", g.x.replay(1), g.x.digest(500));
        due("fall", g.x.fall(), 1);
        due("digest(492)", g.x.digest(492), g.x.digest(500));
    }

    private static void fallAtEveryTick() {
        sentence("All STATES are lost and worked anew from tick 0 on, by all ACTS: 1 if the DIGEST at NOW is as it was, else 0");
        Game g = new Game(7, 7, 1);
        int[] digests = new int[40];
        for (int now = 0; now < 34; now++) {
            digests[now] = g.x.digest(now);
            due("fall at " + now, g.x.fall(), 1);
            int first = Math.max(0, now - 8);
            for (int t = first; t <= now; t++) due("digest(" + t + ")", g.x.digest(t), digests[t]);
            g.doNow(0, STEP, now % 3 == 0 ? DOWN : now % 3 == 1 ? RIGHT : LEFT);
        }
    }

    private static void fallKeepsHitsAndNotes() {
        sentence("All STATES are lost and worked anew from tick 0 on, by all ACTS");
        Game g = shooting(4, 3, 6, 20);
        due("one taken back", g.send(0, STEP, DOWN, 0, 18), 3);
        int[] hits = {0, 0, 0, 1, 0, 0, 1};
        int digest = g.x.digest(13);
        due("fall", g.x.fall(), 1);
        for (int t = 0; t < 7; t++) due("hit(" + t + ", 1)", g.x.hit(t, 1), hits[t]);
        due("hit(20, 1)", g.x.hit(20, 1), 0);
        due("taken back", g.x.back(3), 1);
        due("no going back", g.x.back(0), 1);
        due("now", g.x.count(5), 21);
        due("the oldest that is kept", g.x.digest(13), digest);
        due("going back goes on", g.send(0, STEP, RIGHT, 0, 17), 4);
        due("it is as worked from 0", g.x.digest(21), g.x.replay(21));
        due("fair hits", g.x.fair(1, 0), 2);
    }

    // ---- promises 21 and 22

    private static void actHasTicksAndPlayers() {
        sentence("NONE: t is not 0 .. 499, no such player");
        for (int players = 1; players <= 4; players++) {
            Game g = new Game(3, 3, players);
            int[] ticks = {0, 1, 499};
            for (int t : ticks) due("tick " + t, g.x.act(t, players - 1), NO_ACT);
            int[] none = {-1, 500, MIN, MAX};
            for (int t : none) due("tick " + t, g.x.act(t, 0), NONE);
            int[] nobody = {-1, players, 4, MIN, MAX};
            for (int p : nobody) due("player " + p, g.x.act(0, p), NONE);
        }
    }

    private static void actTells() {
        sentence("The ACT of a tick and player: kind + 16 d + 64 w; 4096 if there is none");
        int[][] acts = {{WAIT, 0, 0}, {STEP, 3, 0}, {SHOT, 2, 0}, {OPEN, 3, 15}, {OPEN, 0, 0}, {TAKE, 0, 0}, {PUT, 0, 0}, {THROW, 1, 0}};
        for (int[] a : acts) {
            Game g = new Game(3, 3, 2);
            g.sendsEarly(1, a[0], a[1], a[2], 2);
            due("its act", g.x.act(2, 1), a[0] + 16 * a[1] + 64 * a[2]);
            due("not the other's", g.x.act(2, 0), NO_ACT);
            due("nor another tick's", g.x.act(1, 1), NO_ACT);
            due("nor another tick's", g.x.act(3, 1), NO_ACT);
        }
        Game h = new Game(3, 3, 1);
        h.stepsTo(497);
        h.sendsEarly(0, STEP, LEFT, 0, 499);
        due("the last tick's", h.x.act(499, 0), STEP + 16 * LEFT);
    }

    private static void actOfTheRefused() {
        sentence("What is refused changes nothing");
        Game g = new Game(3, 3, 1);
        due("crafted", g.send(0, PUT, 0, 0, 0), CRAFTED);
        due("garbled", g.x.feed(0, bits(STEP, 1, 0, 0, 0) + 16), GARBLED);
        due("seq", g.x.feed(0, bits(STEP, 1, 0, 0, 5)), SEQ);
        due("no act", g.x.act(0, 0), NO_ACT);
    }

    private static void hitHasTicksAndPlayers() {
        sentence("1 more than the THING that player p's ACT of tick t HITS, as now worked; 0: none. NONE: t is not 0 .. NOW - 1, no such player");
        Game g = new Game(10, 3, 1);
        g.places(BEAST, 9, 9 + 20, 19, 6);
        due("at tick 0 there is none", g.x.hit(0, 0), NONE);
        g.doNow(0, SHOT, RIGHT);
        due("thing 4", g.x.hit(0, 0), 5);
        due("now is 1", g.x.hit(1, 0), NONE);
        g.steps(1);
        due("none", g.x.hit(1, 0), 0);
        int[] none = {-1, 2, 500, MIN, MAX};
        for (int t : none) due("tick " + t, g.x.hit(t, 0), NONE);
        int[] nobody = {-1, 1, 4, MIN, MAX};
        for (int p : nobody) due("player " + p, g.x.hit(0, p), NONE);
        Game h = new Game(3, 3, 4);
        h.steps(500);
        due("the last tick", h.x.hit(499, 3), 0);
        due("behind it", h.x.hit(500, 3), NONE);
    }

    // ---- promises 23 and 24

    private static void takenHasNumbers() {
        sentence("what 0 the tick, 1 the player, 2 the THING, 3 NOW then. NONE: there is none, no such what");
        Game g = shooting(4, 3);
        for (int what = 0; what < 4; what++) due("there is none", g.x.taken(0, what), NONE);
        g.send(0, STEP, DOWN, 0, 2);
        row("the only one", g, 0, 3, 1, 0, 4);
        int[] none = {-1, 1, 63, 64, MIN, MAX};
        for (int i : none) due("taken(" + i + ", 0)", g.x.taken(i, 0), NONE);
        int[] whats = {-1, 4, MIN, MAX};
        for (int w : whats) due("taken(0, " + w + ")", g.x.taken(0, w), NONE);
    }

    private static void backHasNumbers() {
        sentence("what 0 how many, 1 their ticks added, 2 the most ticks of one, 3 how many HITS were TAKEN BACK (also behind 64). NONE");
        Judge x = new Judge();
        for (int what = 0; what < 4; what++) due("back(" + what + ")", x.back(what), 0);
        int[] none = {-1, 4, MIN, MAX};
        for (int what : none) due("back(" + what + ")", x.back(what), NONE);
    }

    private static void backCounts() {
        sentence("GOINGS BACK since begin(): what 0 how many, 1 their ticks added, 2 the most ticks of one");
        Game g = new Game(3, 3, 1);
        g.x.late(8);
        g.steps(8);
        int[] ticks = {7, 5, 0, 6};
        int[][] backs = {{1, 1, 1}, {2, 4, 3}, {3, 12, 8}, {4, 14, 8}};
        for (int i = 0; i < 4; i++) {
            due("taken", g.send(0, WAIT, 0, 0, ticks[i]), 8 - ticks[i]);
            for (int what = 0; what < 3; what++) due("back(" + what + ")", g.x.back(what), backs[i][what]);
        }
        due("refused", g.send(0, WAIT, 0, 0, 0), TWICE);
        due("for now", g.send(0, WAIT, 0, 0, 8), 0);
        for (int what = 0; what < 3; what++) due("as it was", g.x.back(what), backs[3][what]);
        g.x.begin(3, 3, 1);
        for (int what = 0; what < 3; what++) due("begun anew", g.x.back(what), 0);
    }
}
