/** The boundary cases of part V and of promises 25 and 26, a test for each sentence. */
public final class EdgesOfTheWatchTest extends Check {
    public static void main(String[] args) {
        settledForEveryLate();
        lookedAtWithLife();
        lookedAtByTheStateAtTheTick();
        killedAheadOfItsShot();
        waitsAreNotLookedAt();
        lateActsAreLookedAt();
        shotWithRest();
        nothingStandsWhereItSees();
        bodyNoughtIsAThing();
        deadAndLyingAreNoMatter();
        unseenCellsOfTheLine();
        lineOfSevenAtMost();
        lampLengthensTheSight();
        standingThingsUnseen();
        cellsUnseen();
        lesserOfThingsAndCells();
        chanceIsCutOff();
        successIsAHit();
        openOfAShutDoor();
        openOfAKnownDoor();
        openOfWhatAnotherOpens();
        rowAtFirst();
        firstGap();
        sameGaps();
        gapsOfEveryKind();
        rowIsCutOff();
        tailFromTheSuccessesOn();
        sixtyFourTrials();
        sixtyFourForeseen();
        sixtyFourThatAreSure();
        tailAtMostRisk();
        riskOfNought();
        riskOfAll();
        toldOnce();
        toldBehindATrial();
        watchHasNumbers();
        fairWhenSettled();
        fairByWhenItCame();
        fairOfThrowsAndBites();
        fairOfWhatIsTakenBack();
        fairHasNumbers();
        end("EdgesOfTheWatchTest");
    }

    private static void watch(String what, Game g, int p, int kind, int... want) {
        for (int k = 0; k < 4; k++) due(what + ", watch(" + p + ", " + kind + ", " + k + ")", g.x.watch(p, kind, k), want[k]);
    }

    /** A game in which a tick is SETTLED at once. */
    private static Game atOnce(int w, int h, int players) {
        Game g = new Game(w, h, players);
        g.x.late(0);
        return g;
    }

    // ---- when and what is looked at

    private static void settledForEveryLate() {
        sentence("A tick is SETTLED once it is below NOW - LATE");
        for (int late = 0; late <= 8; late++) {
            Game g = new Game(3, 3, 1);
            g.x.late(late);
            g.x.risk(ONE);
            g.x.door(1, 5);
            due("an open", g.send(0, OPEN, RIGHT, 4, 0), 0);
            for (int now = 1; now <= 11; now++) {
                g.steps(1);
                due("LATE " + late + ", trials at " + now, g.x.watch(0, 0, 0), now > late ? 1 : 0);
                due("LATE " + late + ", told at " + now, g.x.watch(0, 0, 3), now > late ? late + 2 : 0);
            }
        }
    }

    private static void lookedAtWithLife() {
        sentence("by the STATE at t, if the BODY has LIFE there and there is an ACT that is no WAIT");
        for (int traps = 2; traps <= 3; traps++) {
            Game g = atOnce(3, 3, 1);
            for (int i = 0; i < traps; i++) g.places(TRAP, 1);
            for (int t = 0; t < 3; t++) due("sent early", g.send(0, STEP, t == 0 ? RIGHT : UP, 0, t), 0);
            g.steps(3);
            due("life", g.x.body(0, 1), traps == 2 ? 1 : 0);
            due("trials of the third act", g.x.watch(0, 1, 0), traps == 2 ? 1 : 0);
        }
    }

    /** At tick 3, which begins with player 1, player 0 has 1 LIFE and stands in CELL 2, above a DOOR; player 1 in CELL 4. */
    private static Game aboutToDie(int w) {
        Game g = atOnce(w, 3, 2);
        g.x.door(2 + w, 9);
        g.places(TRAP, 1, 2);
        g.steps(1);
        for (int i = 0; i < 2; i++) {
            g.does(0, STEP, RIGHT);
            g.doNow(1, STEP, UP);
        }
        due("life", g.x.body(0, 1), 1);
        return g;
    }

    private static void lookedAtByTheStateAtTheTick() {
        sentence("by the STATE at t, if the BODY has LIFE there and there is an ACT that is no WAIT");
        Game g = aboutToDie(5);
        due("an open", g.send(0, OPEN, DOWN, 9, 3), 0);
        g.doNow(1, SHOT, LEFT);
        due("killed ahead of its act", g.x.body(0, 1), 0);
        due("the door is shut", g.x.open(0), 0);
        watch("looked at all the same", g, 0, 0, 1, 1, 65536, 0);
        due("the gap, too: 1 and 1", g.x.watch(0, 1, 0), 1);
    }

    /** In 8 columns player 0 in CELL 2 SEES CELL 6 at most; player 1 in CELL 7 shoots it through the line. */
    private static void killedAheadOfItsShot() {
        sentence("a SUCCESS if there is a HIT of that tick and player");
        Game g = aboutToDie(8);
        g.does(0, SHOT, RIGHT);
        g.doNow(1, SHOT, LEFT);
        due("killed ahead of its shot", g.x.hit(3, 0) * 10 + g.x.hit(3, 1), 1);
        watch("a trial without success", g, 0, 0, 1, 0, ONE, 0);
        Game h = aboutToDie(8);
        h.doNow(0, SHOT, RIGHT);
        due("not killed", h.x.hit(3, 0), 2);
        // CELLS 7, 15, 23 are unseen, and what the DOOR in CELL 10 hides: CELLS 17 and 18
        watch("a trial with success: 1 of 5", h, 0, 0, 1, 1, ONE / 5, 0);
    }

    private static void waitsAreNotLookedAt() {
        sentence("and there is an ACT that is no WAIT");
        Game g = atOnce(3, 3, 1);
        for (int i = 0; i < 6; i++) g.doNow(0, WAIT, 0);
        g.steps(2);
        watch("waits", g, 0, 1, 0, 0, ONE, 0);
        for (int i = 0; i < 2; i++) g.doNow(0, STEP, UP);
        g.doNow(0, WAIT, 0);
        g.steps(1);
        g.doNow(0, STEP, UP);
        watch("a wait and a tick without act between: 1 and 3", g, 0, 1, 1, 0, ONE, 0);
    }

    private static void lateActsAreLookedAt() {
        sentence("THE WATCH looks at a tick t when it is SETTLED, for all players in order");
        Game g = new Game(3, 3, 2);
        g.x.late(2);
        g.doNow(0, STEP, UP);
        g.steps(1);
        g.doNow(0, STEP, UP);
        due("late, between the two", g.send(0, STEP, UP, 0, 1), 2);
        g.steps(2);
        watch("1 and 1", g, 0, 1, 1, 1, 262144, 0);
        Game h = atOnce(3, 3, 4);
        for (int t = 0; t < 3; t++) {
            for (int p = 0; p < 4; p++) h.does(p, STEP, p == 0 || p == 2 ? UP : DOWN);
            h.steps(1);
        }
        for (int p = 0; p < 4; p++) watch("all players", h, p, 1, 1, 1, 262144, 0);
    }

    // ---- FORESEEING: a SHOT

    private static void shotWithRest() {
        sentence("FORESEEING (0): a SHOT with REST 0");
        Game g = atOnce(10, 3, 1);
        g.does(0, SHOT, RIGHT);
        for (int t = 1; t <= 2; t++) g.sendsEarly(0, SHOT, RIGHT, 0, t);
        int[] trials = {1, 1, 1};
        for (int n : trials) {
            g.steps(1);
            due("rest 0 alone", g.x.watch(0, 0, 0), n);
        }
        due("rest is 0 again", g.x.body(0, 3), 0);
        g.doNow(0, SHOT, RIGHT);
        due("a second trial", g.x.watch(0, 0, 0), 2);
        due("the machine looks at all: three of four", g.x.watch(0, 1, 0), 2);
    }

    private static void nothingStandsWhereItSees() {
        sentence("if no THING STANDS in a CELL of the LINE that the BODY SEES, and c, the number of its CELLS that it doesn't SEE, is above 0");
        for (int far = 1; far <= 7; far++) {
            for (int kind = BEAST; kind <= WOLF; kind++) {
                Game g = atOnce(10, 3, 1);
                g.places(kind, far);
                g.doNow(0, SHOT, RIGHT);
                due("hit", g.x.hit(0, 0), 2);
                due("a trial if it is unseen, at " + far, g.x.watch(0, 0, 0), far <= 4 ? 0 : 1);
            }
        }
        Game h = atOnce(10, 3, 1);
        h.places(BEAST, 11, 7);
        h.doNow(0, SHOT, RIGHT);
        watch("one that is seen beside the line: 1 times 3 of 15", h, 0, 0, 1, 1, 209715, 0);
        Game k = atOnce(10, 3, 1);
        k.places(BEAST, 4, 7);
        k.doNow(0, SHOT, RIGHT);
        due("one seen, one unseen: no trial", k.x.watch(0, 0, 0), 0);
    }

    /** Player 2 in CELL 7 shoots along the row to CELL 0; it SEES down to CELL 3. */
    private static void bodyNoughtIsAThing() {
        sentence("if no THING STANDS in a CELL of the LINE that the BODY SEES, and c, the number of its CELLS that it doesn't SEE, is above 0");
        Game g = atOnce(8, 3, 3);
        g.doNow(2, SHOT, LEFT);
        due("body 0 is hit, unseen", g.x.hit(0, 2), 1);
        watch("CELL 0 is in the line: 1 times 3 of 9", g, 2, 0, 1, 1, ONE / 3, 0);
        Game h = atOnce(8, 3, 3);
        for (int i = 0; i < 3; i++) h.doNow(0, STEP, RIGHT);
        h.doNow(2, SHOT, LEFT);
        due("body 0 is hit, seen", h.x.hit(3, 2), 1);
        watch("no trial", h, 2, 0, 0, 0, ONE, 0);
    }

    private static void deadAndLyingAreNoMatter() {
        sentence("if no THING STANDS in a CELL of the LINE that the BODY SEES");
        Game g = atOnce(10, 3, 1);
        g.places(BEAST, 4, 7);
        g.places(TRAP, 3);
        for (int kind = POT; kind <= CROWN; kind++) if (kind != TRAP) g.places(kind, 2);
        g.steps(1);
        due("dead in the line", g.x.thing(1, 2) * 10 + g.x.thing(1, 1), 3);
        g.doNow(0, SHOT, RIGHT);
        watch("1 times 3 of 15", g, 0, 0, 1, 1, 209715, 0);
    }

    private static void unseenCellsOfTheLine() {
        sentence("and c, the number of its CELLS that it doesn't SEE, is above 0");
        for (int wall = 1; wall <= 9; wall++) {
            Game g = atOnce(10, 3, 2);
            g.walls(wall);
            if (wall != 5) g.places(BEAST, 5);
            g.doNow(0, SHOT, RIGHT);
            int c = Math.min(wall, 8) - 5;
            due("wall at " + wall + ": trials", g.x.watch(0, 0, 0), c > 0 ? 1 : 0);
            if (c > 0) due("2 times " + c + " of 14", g.x.watch(0, 0, 2), (int) (2L * c * ONE / 14));
        }
    }

    private static void lineOfSevenAtMost() {
        sentence("LINE as in II by that STATE");
        Game g = atOnce(10, 3, 1);
        g.places(BEAST, 8);
        g.doNow(0, SHOT, RIGHT);
        watch("the eighth cell is not in it", g, 0, 0, 1, 0, ONE, 0);
        Game h = atOnce(3, 10, 1);
        h.places(BEAST, 15);
        h.doNow(0, SHOT, DOWN);
        watch("down: 1 times 3 of 15", h, 0, 0, 1, 1, 209715, 0);
        Game k = atOnce(10, 3, 2);
        k.places(BEAST, 24);
        k.doNow(1, SHOT, LEFT);
        watch("left: 2 times 3 of 15", k, 1, 0, 1, 1, 419430, 0);
        Game m = atOnce(3, 10, 2);
        m.places(BEAST, 14);
        m.doNow(1, SHOT, UP);
        watch("up: 2 times 3 of 15", m, 1, 0, 1, 1, 419430, 0);
        Game n = atOnce(10, 3, 1);
        n.doNow(0, SHOT, UP);
        watch("no cell in it: no trial", n, 0, 0, 0, 0, ONE, 0);
    }

    private static void lampLengthensTheSight() {
        sentence("R is 4, but 6 for a BODY that carries a LAMP");
        Game g = atOnce(10, 3, 1);
        g.places(LAMP, 0);
        g.places(BEAST, 7);
        g.doNow(0, TAKE, 0);
        g.doNow(0, SHOT, RIGHT);
        watch("1 times 1 of 9", g, 0, 0, 1, 1, ONE / 9, 0);
        Game h = atOnce(10, 3, 1);
        h.places(LAMP, 0);
        h.places(BEAST, 6);
        h.doNow(0, TAKE, 0);
        h.doNow(0, SHOT, RIGHT);
        watch("it is seen", h, 0, 0, 0, 0, ONE, 0);
    }

    /** In 7 columns and 3 rows the CELLS 5, 6, 12, 13, 19, 20 are unseen, two of them in the line. */
    private static Game sevenByThree(int players, int... beasts) {
        Game g = atOnce(7, 3, players);
        g.places(BEAST, beasts);
        return g;
    }

    private static int chanceOf(Game g) {
        g.doNow(0, SHOT, RIGHT);
        due("one trial", g.x.watch(0, 0, 0), 1);
        due("one success", g.x.watch(0, 0, 1), 1);
        return g.x.watch(0, 0, 2);
    }

    private static void standingThingsUnseen() {
        sentence("with a the STANDING THINGS that it doesn't SEE");
        due("1", chanceOf(sevenByThree(1, 5)), 2 * ONE / 6);
        due("2", chanceOf(sevenByThree(1, 5, 13)), (int) (4L * ONE / 6));
        due("those it sees are none", chanceOf(sevenByThree(1, 5, 8, 9)), 2 * ONE / 6);
        due("bodies, too", chanceOf(sevenByThree(2, 5)), (int) (4L * ONE / 6));
        Game g = sevenByThree(1, 5);
        g.places(WOLF, 12);
        due("wolves, too", chanceOf(g), (int) (4L * ONE / 6));
        Game h = sevenByThree(1, 5);
        for (int kind = POT; kind <= CROWN; kind++) h.places(kind, 12);
        due("what lies is none", chanceOf(h), 2 * ONE / 6);
        Game k = atOnce(7, 3, 2);
        k.places(BEAST, 5);
        k.places(TRAP, 19, 19, 19);
        k.doNow(1, STEP, LEFT);
        due("player 1 is dead in 19", k.x.body(1, 1) * 100 + k.x.body(1, 0), 19);
        due("the dead are none", chanceOf(k), 2 * ONE / 6);
        Game m = sevenByThree(1, 5);
        m.doNow(0, SHOT, RIGHT);
        m.steps(2);
        m.doNow(0, SHOT, RIGHT);
        watch("one that had 1 life", m, 0, 0, 2, 2, (int) (349525L * 349525 / ONE), 0);
        Game n = sevenByThree(1, 5, 12);
        for (int i = 3; i < 16; i++) n.places(POT, 0);
        due("of 16 things", chanceOf(n), (int) (4L * ONE / 6));
    }

    private static void cellsUnseen() {
        sentence("b the CELLS that it doesn't SEE and that are no WALL");
        Game g = sevenByThree(1, 5);
        g.walls(13);
        due("a wall is none", chanceOf(g), 2 * ONE / 5);
        Game h = sevenByThree(1, 5);
        h.x.door(13, 1);
        due("a shut door is one", chanceOf(h), 2 * ONE / 6);
        Game k = sevenByThree(1, 5);
        k.x.door(13, 1);
        k.x.plate(12, 0);
        due("a plate is one", chanceOf(k), 2 * ONE / 6);
        Game m = sevenByThree(1, 5);
        m.walls(8);
        int hidden = 0;
        for (int c = 0; c < 21; c++) hidden += 1 - m.x.sees(0, c);
        due("a wall that is seen hides others", hidden > 6 ? 1 : 0, 1);
        due("they count", chanceOf(m), 2 * ONE / hidden);
        Game n = sevenByThree(1, 5);
        n.walls(6, 12, 13, 19, 20);
        due("one cell alone: sure", chanceOf(n), ONE);
    }

    private static void lesserOfThingsAndCells() {
        sentence("CHANCE floor(ONE times the lesser of a c and b, divided by b)");
        due("3 times 2 is 6 of 6", chanceOf(sevenByThree(1, 5, 12, 13)), ONE);
        due("4 times 2 is more than 6", chanceOf(sevenByThree(1, 5, 12, 13, 20)), ONE);
        Game g = sevenByThree(1, 5, 12);
        g.walls(13);
        due("2 times 2 is 4 of 5", chanceOf(g), (int) (4L * ONE / 5));
        Game h = sevenByThree(1, 5, 12);
        h.walls(13, 19);
        due("2 times 2 is 4 of 4", chanceOf(h), ONE);
        Game k = sevenByThree(1, 5, 12);
        k.walls(13, 19, 20);
        due("2 times 2 is more than 3", chanceOf(k), ONE);
        Game m = atOnce(7, 3, 1);
        m.doNow(0, SHOT, RIGHT);
        watch("0 times 2: chance 0, a trial all the same", m, 0, 0, 1, 0, ONE, 0);
    }

    private static void chanceIsCutOff() {
        sentence("CHANCE floor(ONE times the lesser of a c and b, divided by b)");
        due("a third", chanceOf(sevenByThree(1, 5)), 349525);
        due("two thirds", chanceOf(sevenByThree(1, 5, 13)), 699050);
    }

    private static void successIsAHit() {
        sentence("a SUCCESS if there is a HIT of that tick and player");
        Game g = sevenByThree(1, 12);
        g.doNow(0, SHOT, RIGHT);
        watch("a miss", g, 0, 0, 1, 0, ONE, 0);
        Game h = atOnce(7, 3, 3);
        h.doNow(2, STEP, DOWN);
        due("player 2 is unseen in 13", h.x.body(2, 0) * 10 + h.x.sees(0, 13), 130);
        h.does(2, STEP, UP);
        h.doNow(0, SHOT, RIGHT);
        due("tick 1 ends with player 0: a hit where nothing stood", h.x.hit(1, 0), 3);
        watch("2 times 2 of 6", h, 0, 0, 1, 1, 699050, 0);
    }

    // ---- FORESEEING: an OPEN

    private static void openOfAShutDoor() {
        sentence("An OPEN, where next in d is a DOOR that is shut and not in KNOWN: CHANCE 2^16; a SUCCESS if w is its WORD");
        Game g = atOnce(3, 3, 1);
        g.x.door(1, 9);
        g.opens(0, RIGHT, 8);
        watch("a wrong word", g, 0, 0, 1, 0, ONE, 0);
        g.opens(0, RIGHT, 10);
        // T is (983040, 65536), then (921600, 122880, 4096)
        watch("a wrong word", g, 0, 0, 2, 0, ONE, 0);
        g.opens(0, RIGHT, 9);
        // then (864000, 172800, 11520, 256)
        watch("the right word", g, 0, 0, 3, 1, 172800 + 11520 + 256, 0);
        g.opens(0, RIGHT, 9);
        watch("an open door: no trial", g, 0, 0, 3, 1, 172800 + 11520 + 256, 0);
        g.sendsEarly(0, OPEN, DOWN, 9, 5);
        g.steps(2);
        watch("no door: no trial", g, 0, 0, 3, 1, 172800 + 11520 + 256, 0);
        Game h = atOnce(3, 3, 1);
        h.sendsEarly(0, OPEN, LEFT, 9, 1);
        h.steps(2);
        watch("the edge: no trial", h, 0, 0, 0, 0, ONE, 0);
    }

    private static void openOfAKnownDoor() {
        sentence("An OPEN, where next in d is a DOOR that is shut and not in KNOWN: CHANCE 2^16");
        for (int door = 0; door < 8; door += 7) {
            Game g = atOnce(5, 5, 2);
            for (int i = 0; i < 8; i++) g.x.door(i == door ? 1 : 10 + i, i);
            g.x.plate(5, door);
            due("wrong words", g.send(0, OPEN, RIGHT, 15, 0), 0);
            g.steps(1);
            due("not known: a trial", g.x.watch(0, 0, 0), 1);
            g.doNow(0, STEP, DOWN);
            g.doNow(0, STEP, UP);
            due("known", g.x.body(0, 6), 1 << door);
            g.opens(0, RIGHT, 15);
            due("known: no trial", g.x.watch(0, 0, 0), 1);
        }
        Game h = atOnce(3, 3, 3);
        h.x.door(1, 5);
        h.x.plate(0, 0);
        h.opens(2, LEFT, 4);
        due("known to another", h.x.watch(2, 0, 0), 1);
        Game k = atOnce(3, 3, 1);
        k.x.door(1, 5);
        k.x.door(3, 5);
        k.x.plate(0, 1);
        k.opens(0, RIGHT, 4);
        due("another door is known", k.x.watch(0, 0, 0), 1);
    }

    private static void openOfWhatAnotherOpens() {
        sentence("by the STATE at t");
        Game g = atOnce(3, 3, 3);
        g.x.door(1, 5);
        due("player 0", g.send(0, OPEN, RIGHT, 5, 0), 0);
        due("player 2", g.send(2, OPEN, LEFT, 5, 0), 0);
        g.steps(1);
        watch("shut at 0", g, 0, 0, 1, 1, 65536, 0);
        watch("though player 0 opens it first", g, 2, 0, 1, 1, 65536, 0);
    }

    private static void rowAtFirst() {
        sentence("For each player and kind there is a row T, T(0) ONE, the others 0");
        Game g = atOnce(3, 3, 4);
        for (int p = 0; p < 4; p++) for (int kind = 0; kind < 2; kind++) watch("at first", g, p, kind, 0, 0, ONE, 0);
        g.x.door(1, 9);
        g.opens(2, LEFT, 9);
        watch("of its own", g, 2, 0, 1, 1, 65536, 0);
        watch("not of the other kind", g, 2, 1, 0, 0, ONE, 0);
        for (int p = 0; p < 4; p++) if (p != 2) watch("nor of the others", g, p, 0, 0, 0, ONE, 0);
    }

    // ---- MACHINE

    private static void firstGap() {
        sentence("the GAP is t less the tick of that player's ACT ahead of it (no WAIT, SETTLED, looked at); if there was a GAP ahead of this one");
        Game g = atOnce(3, 3, 2);
        for (int i = 0; i < 3; i++) {
            g.doNow(0, STEP, UP);
            due("trials behind act " + i, g.x.watch(0, 1, 0), i < 2 ? 0 : 1);
        }
        due("the other's own", g.x.watch(1, 1, 0), 0);
        g.doNow(1, STEP, DOWN);
        g.doNow(1, STEP, DOWN);
        due("the other's own", g.x.watch(1, 1, 0), 0);
    }

    private static void sameGaps() {
        sentence("CHANCE 2^18; a SUCCESS if both are the same");
        int[][] gaps = {{1, 1, 1}, {1, 2, 0}, {2, 1, 0}, {7, 7, 1}, {7, 8, 0}, {30, 30, 1}};
        for (int[] gap : gaps) {
            Game g = atOnce(3, 3, 1);
            g.doNow(0, STEP, UP);
            g.stepsTo(gap[0]);
            g.doNow(0, STEP, UP);
            g.stepsTo(gap[0] + gap[1]);
            g.doNow(0, STEP, UP);
            watch(gap[0] + " and " + gap[1], g, 0, 1, 1, gap[2], gap[2] == 1 ? 262144 : ONE, 0);
        }
        Game h = atOnce(3, 3, 1);
        int[] ticks = {0, 2, 3, 5, 6};
        for (int t : ticks) {
            h.stepsTo(t);
            h.doNow(0, STEP, UP);
        }
        watch("2, 1, 2, 1: only the one ahead counts", h, 0, 1, 3, 0, ONE, 0);
    }

    private static void gapsOfEveryKind() {
        sentence("MACHINE (1): the GAP is t less the tick of that player's ACT ahead of it (no WAIT, SETTLED, looked at)");
        Game g = atOnce(3, 3, 1);
        g.x.door(1, 5);
        g.places(STONE, 0);
        g.doNow(0, STEP, UP);
        g.doNow(0, SHOT, UP);
        g.opens(0, RIGHT, 4);
        due("step, shot, open", g.x.watch(0, 1, 0), 1);
        g.doNow(0, TAKE, 0);
        due("take", g.x.watch(0, 1, 0), 2);
        g.doNow(0, PUT, 0);
        due("put", g.x.watch(0, 1, 0), 3);
        g.doNow(0, TAKE, 0);
        g.doNow(0, THROW, UP);
        due("take, throw", g.x.watch(0, 1, 0), 5);
        due("all the same", g.x.watch(0, 1, 1), 5);
    }

    // ---- the row T

    private static void rowIsCutOff() {
        sentence("a TRIAL makes T(k) to floor((T(k) (ONE - CHANCE) + T(k - 1) CHANCE) / ONE) for all k at once");
        Game g = sevenByThree(1, 12);
        long[] row = new long[70];
        row[0] = ONE;
        for (int i = 1; i <= 20; i++) {
            g.doNow(0, SHOT, RIGHT);
            g.steps(2);
            long[] was = row.clone();
            for (int k = 0; k < 70; k++) row[k] = (was[k] * (ONE - 349525) + (k > 0 ? was[k - 1] : 0) * 349525) / ONE;
            long tail = 0;
            for (long t : row) tail += t;
            watch("a third, " + i + " times", g, 0, 0, i, 0, (int) tail, 0);
        }
        due("some is lost by cutting", g.x.watch(0, 0, 2) < ONE ? 1 : 0, 1);
    }

    private static void tailFromTheSuccessesOn() {
        sentence("The TAIL is the sum of T(k) over all k from the number of SUCCESSES on");
        Game g = atOnce(3, 3, 1);
        int[] ticks = {0, 1, 2, 4, 6, 7, 8};
        int[][] want = {{0, 0, ONE}, {0, 0, ONE}, {1, 1, 262144}, {2, 1, 393216 + 65536}, {3, 2, 147456 + 16384},
            {4, 2, 221184 + 49152 + 4096}, {5, 3, 92160 + 15360 + 1024}};
        for (int i = 0; i < ticks.length; i++) {
            g.stepsTo(ticks[i]);
            g.doNow(0, STEP, UP);
            watch("act " + i, g, 0, 1, want[i][0], want[i][1], want[i][2], 0);
        }
    }

    private static void sixtyFourTrials() {
        sentence("Behind 64 TRIALS none counts any more");
        Game g = atOnce(3, 3, 1);
        g.x.risk(0);
        for (int i = 0; i < 70; i++) {
            g.doNow(0, STEP, UP);
            due("trials behind act " + i, g.x.watch(0, 1, 0), Math.max(0, Math.min(64, i - 1)));
            due("successes behind act " + i, g.x.watch(0, 1, 1), Math.max(0, Math.min(64, i - 1)));
        }
        Game h = atOnce(3, 3, 1);
        int t = 0;
        for (int i = 0; i < 66; i++) {
            h.stepsTo(t);
            h.doNow(0, STEP, UP);
            t += 1 + i % 2;
        }
        int[] before = new int[4];
        for (int k = 0; k < 4; k++) before[k] = h.x.watch(0, 1, k);
        due("64", before[0], 64);
        due("no success", before[1], 0);
        h.x.risk(ONE);
        for (int i = 0; i < 3; i++) h.doNow(0, STEP, UP);
        watch("the 65th and on change nothing", h, 0, 1, before);
    }

    private static void sixtyFourForeseen() {
        sentence("Behind 64 TRIALS none counts any more");
        Game g = atOnce(3, 3, 1);
        g.x.door(1, 5);
        for (int i = 1; i <= 63; i++) g.opens(0, RIGHT, 4);
        due("63", g.x.watch(0, 0, 0), 63);
        g.opens(0, RIGHT, 4);
        int tail = g.x.watch(0, 0, 2);
        due("64", g.x.watch(0, 0, 0), 64);
        g.x.risk(ONE);
        g.opens(0, RIGHT, 5);
        due("the door opens", g.x.open(0), 1);
        watch("but counts for nothing", g, 0, 0, 64, 0, tail, 0);
    }

    /** Cells 5, 6, 7, 21 and 23 are dark, 3 of them in the line, and 2 THINGS stand in the others: T(64) is ONE. */
    private static void sixtyFourThatAreSure() {
        sentence("The TAIL is the sum of T(k) over all k from the number of SUCCESSES on");
        Game g = atOnce(8, 3, 2);
        g.walls(13, 14, 15, 22);
        g.places(BEAST, 21);
        for (int i = 0; i < 64; i++) {
            g.doNow(0, SHOT, RIGHT);
            g.steps(2);
        }
        watch("64 of them, and no hit", g, 0, 0, 64, 0, ONE, 0);
    }

    // ---- TOLD

    private static void tailAtMostRisk() {
        sentence("When, behind a TRIAL, the TAIL is at most RISK (1048 at first), the player is TOLD for this kind, once, at NOW");
        int[] risks = {65535, 65536, 65537};
        for (int risk : risks) {
            Game g = atOnce(3, 3, 1);
            g.x.door(1, 5);
            g.x.risk(risk);
            g.opens(0, RIGHT, 5);
            watch("risk " + risk, g, 0, 0, 1, 1, 65536, risk < 65536 ? 0 : 2);
        }
        Game h = atOnce(3, 3, 1);
        for (int i = 0; i < 7; i++) h.doNow(0, STEP, UP);
        watch("1024 is at most 1048", h, 0, 1, 5, 5, 1024, 8);
        Game k = atOnce(3, 3, 1);
        k.x.risk(1023);
        for (int i = 0; i < 7; i++) k.doNow(0, STEP, UP);
        watch("1024 is above 1023", k, 0, 1, 5, 5, 1024, 0);
        k.doNow(0, STEP, UP);
        watch("256 is not", k, 0, 1, 6, 6, 256, 9);
    }

    private static void riskOfNought() {
        sentence("RISK becomes 0 .. 2^20");
        Game g = atOnce(3, 3, 1);
        g.x.risk(0);
        for (int i = 0; i < 12; i++) g.doNow(0, STEP, UP);
        watch("a tail of 1", g, 0, 1, 10, 10, 1, 0);
        g.doNow(0, STEP, UP);
        watch("a tail of 0", g, 0, 1, 11, 11, 0, 14);
    }

    private static void riskOfAll() {
        sentence("RISK becomes 0 .. 2^20");
        Game g = atOnce(3, 3, 1);
        g.x.risk(ONE);
        g.doNow(0, STEP, UP);
        g.steps(1);
        g.doNow(0, STEP, UP);
        watch("no trial yet", g, 0, 1, 0, 0, ONE, 0);
        g.doNow(0, STEP, UP);
        watch("without any success", g, 0, 1, 1, 0, ONE, 5);
        Game h = atOnce(3, 3, 1);
        h.x.risk(ONE - 1);
        h.doNow(0, STEP, UP);
        h.steps(1);
        h.doNow(0, STEP, UP);
        h.doNow(0, STEP, UP);
        watch("one below it is not", h, 0, 1, 1, 0, ONE, 0);
    }

    private static void toldOnce() {
        sentence("the player is TOLD for this kind, once, at NOW (as it is when the tick is SETTLED)");
        Game g = new Game(3, 3, 2);
        g.x.late(3);
        for (int i = 0; i < 12; i++) {
            g.does(1, STEP, DOWN);
            g.doNow(0, STEP, UP);
        }
        due("1024 behind tick 6, settled at 10", g.x.watch(0, 1, 3), 11);
        due("for each player", g.x.watch(1, 1, 3), 11);
        due("not for the other kind", g.x.watch(0, 0, 3), 0);
        g.steps(5);
        due("once", g.x.watch(0, 1, 3), 11);
    }

    private static void toldBehindATrial() {
        sentence("When, behind a TRIAL, the TAIL is at most RISK (1048 at first)");
        Game g = atOnce(3, 3, 1);
        g.x.door(1, 5);
        g.x.door(3, 5);
        g.opens(0, RIGHT, 5);
        g.x.risk(ONE);
        g.steps(3);
        watch("no trial, so not told", g, 0, 0, 1, 1, 65536, 0);
        g.opens(0, DOWN, 4);
        watch("told behind the next", g, 0, 0, 2, 1, 122880 + 4096, 6);
        g.x.risk(0);
        g.opens(0, DOWN, 4);
        watch("and it stays", g, 0, 0, 3, 1, 172800 + 11520 + 256, 6);
    }

    private static void watchHasNumbers() {
        sentence("what 0 TRIALS that count, 1 their SUCCESSES, 2 the TAIL, 3 one more than NOW when it was TOLD (0: not TOLD). NONE: no such player, kind, what");
        for (int players = 1; players <= 4; players++) {
            Game g = new Game(3, 3, players);
            for (int kind = 0; kind < 2; kind++) watch("at first", g, players - 1, kind, 0, 0, ONE, 0);
            int[] nobody = {-1, players, 4, MIN, MAX};
            for (int p : nobody) due("player " + p, g.x.watch(p, 0, 0), NONE);
            int[] kinds = {-1, 2, MIN, MAX};
            for (int k : kinds) due("kind " + k, g.x.watch(0, k, 0), NONE);
            int[] whats = {-1, 4, MIN, MAX};
            for (int w : whats) due("what " + w, g.x.watch(0, 1, w), NONE);
        }
    }

    // ---- promise 26

    /** Player 1 stands in CELL 2 and may shoot player 0 in CELL 0 from tick 2 on. */
    private static Game shooter(int late) {
        Game g = new Game(3, 3, 2);
        g.x.late(late);
        g.doNow(1, STEP, UP);
        g.doNow(1, STEP, UP);
        return g;
    }

    private static void fairWhenSettled() {
        sentence("HITS of player p at SETTLED ticks");
        for (int late = 0; late <= 8; late++) {
            Game g = shooter(late);
            g.does(1, SHOT, LEFT);
            for (int now = 3; now <= 13; now++) {
                g.steps(1);
                due("LATE " + late + " at " + now, g.x.fair(1, 0), now > 2 + late ? 1 : 0);
            }
            due("none late", g.x.fair(1, 1), 0);
            due("none of the other", g.x.fair(0, 0) + g.x.fair(0, 1), 0);
        }
    }

    private static void fairByWhenItCame() {
        sentence("whose ACT, when it came, was for a tick below NOW (what 1), or not (0)");
        for (int ahead = -2; ahead <= 2; ahead++) {
            Game g = shooter(2);
            g.steps(2);
            due("a shot", g.send(1, SHOT, LEFT, 0, 4 + ahead), Math.max(0, -ahead));
            g.steps(8);
            due("a hit", g.x.hit(4 + ahead, 1), 1);
            due("late if " + ahead + " is below 0", g.x.fair(1, 1), ahead < 0 ? 1 : 0);
            due("in time if not", g.x.fair(1, 0), ahead < 0 ? 0 : 1);
        }
    }

    private static void fairOfThrowsAndBites() {
        sentence("HITS of player p at SETTLED ticks");
        Game g = atOnce(3, 3, 2);
        g.places(STONE, 8);
        g.places(BEAST, 3);
        g.doNow(1, TAKE, 0);
        g.doNow(1, STEP, UP);
        g.doNow(1, STEP, UP);
        g.doNow(1, THROW, LEFT);
        due("a hit", g.x.hit(3, 1), 1);
        due("a throw's hit", g.x.fair(1, 0), 1);
        g.doNow(1, SHOT, UP);
        due("a miss", g.x.fair(1, 0), 1);
        due("bites are none", g.x.fair(0, 0), 0);
    }

    private static void fairOfWhatIsTakenBack() {
        sentence("HITS of player p at SETTLED ticks");
        Game g = shooter(2);
        g.steps(1);
        g.doNow(1, SHOT, LEFT);
        due("a hit", g.x.hit(3, 1), 1);
        due("taken back", g.send(0, STEP, DOWN, 0, 2), 2);
        g.steps(6);
        due("no hit", g.x.fair(1, 0) + g.x.fair(1, 1), 0);
        Game h = shooter(2);
        h.doNow(0, STEP, DOWN);
        h.steps(1);
        h.doNow(1, SHOT, LEFT);
        due("no hit", h.x.hit(4, 1), 0);
        due("a hit by what comes late of another", h.send(0, STEP, UP, 0, 3), 2);
        due("a hit", h.x.hit(4, 1), 1);
        h.steps(3);
        due("its own act came in time", h.x.fair(1, 0) * 10 + h.x.fair(1, 1), 10);
    }

    private static void fairHasNumbers() {
        sentence("NONE: no such player, what");
        for (int players = 1; players <= 4; players++) {
            Game g = new Game(3, 3, players);
            due("in time", g.x.fair(players - 1, 0), 0);
            due("late", g.x.fair(players - 1, 1), 0);
            int[] nobody = {-1, players, 4, MIN, MAX};
            for (int p : nobody) due("player " + p, g.x.fair(p, 0), NONE);
            int[] whats = {-1, 2, MIN, MAX};
            for (int w : whats) due("what " + w, g.x.fair(0, w), NONE);
        }
    }
}
