/** The boundary cases of part II and of promises 11 to 14, a test for each sentence; beasts have their own file. */
public final class EdgesOfATickTest extends Check {
    public static void main(String[] args) {
        whoHasNoActWaits();
        lifeNeverBelowNought();
        deathByTrapDrops();
        deathByShotDrops();
        deathByThrowDrops();
        deathByBiteDrops();
        lifeLeftDropsNothing();
        turnsBeginWithTheTick();
        theDeadDoNothing();
        waitDoesNothing();
        stepTurnsTheFace();
        stepIsHinderedByBodies();
        stepGoesOverTheDead();
        stepGoesOverWhatLies();
        shotNeedsNoRest();
        shotGoesSevenRightAndDown();
        shotGoesSevenLeftAndUp();
        shotEndsAtTheEdge();
        shotEndsAtAWall();
        shotEndsAtAShutDoor();
        shotHitsTheFirstThatStands();
        shotTakesOneLife();
        openTurnsTheFace();
        openNeedsADoorNext();
        openNeedsItsWord();
        openStaysOpen();
        takeTheLeastNumber();
        takeNeitherPotNorTrap();
        takeInItsCellAlone();
        putOfNothing();
        throwGoesFour();
        throwEndsAtTheEdge();
        throwEndsWhereItIsBarred();
        throwHitsTheFirstThatStands();
        throwNeedsAStone();
        potGivesUpToFive();
        potAndTrapByNumber();
        entersWhileItHasLife();
        onlyWhoGoesEnters();
        crownGivesPoints();
        restFalls();
        plateTellsTheLiving();
        cellsOfTheGoneAndTheCarried();
        sixteenThings();
        beastBehindFourPlayers();
        stepCounts();
        stepIsFull();
        bodyAnswers();
        thingAnswers();
        openAnswers();
        end("EdgesOfATickTest");
    }

    private static void whoHasNoActWaits() {
        sentence("by the ACTS of tick t (who has none, WAITS)");
        Game g = new Game(5, 3, 2);
        g.places(STONE, 0);
        int[] before = new int[7];
        for (int i = 0; i < 7; i++) before[i] = g.x.body(0, i);
        g.doNow(1, STEP, LEFT);
        for (int i = 0; i < 7; i++) due("body(0, " + i + ")", g.x.body(0, i), before[i]);
        due("the other's act is done", g.x.body(1, 0), 13);
    }

    // ---- LIFE

    private static void lifeNeverBelowNought() {
        sentence("LIFE never falls below 0");
        Game g = new Game(5, 3, 1);
        g.places(TRAP, 1, 2, 3);
        int[] lives = {3, 1, 0};
        for (int life : lives) {
            g.doNow(0, STEP, RIGHT);
            due("a body's", g.x.body(0, 1), life);
        }
        Game h = new Game(7, 3, 1);
        h.places(BEAST, 4);
        h.places(TRAP, 3);
        h.doNow(0, SHOT, RIGHT);
        due("a beast's: 2, a shot, a trap", h.x.thing(1, 2), 0);
        Game k = new Game(7, 3, 1);
        k.places(WOLF, 4);
        k.places(TRAP, 3, 2);
        k.steps(1);
        due("a wolf's: 3, a trap, a trap", k.x.thing(1, 2), 0);
    }

    private static void deathByTrapDrops() {
        sentence("When a BODY's LIFE comes to 0 what it carries LIES in its CELL from then on");
        Game g = new Game(5, 3, 1);
        g.places(LAMP, 0);
        g.places(TRAP, 1, 2, 3);
        g.doNow(0, TAKE, 0);
        for (int i = 0; i < 2; i++) g.doNow(0, STEP, RIGHT);
        due("with 1 it is carried", g.x.thing(1, 3), 0);
        g.doNow(0, STEP, RIGHT);
        due("with 0 it lies where the body went", g.x.thing(1, 1), 3);
        due("nobody carries it", g.x.thing(1, 3), -1);
        due("nothing is carried", g.x.body(0, 4), -1);
    }

    /** At tick 3 player 0 has 1 LIFE, stands in CELL 2 and carries THING 2; player 1 stands in 4 with a STONE (3). */
    private static Game weakAndLaden(int kind) {
        Game g = new Game(5, 3, 2);
        g.places(kind, 0);
        g.places(STONE, 14);
        g.places(TRAP, 1, 2);
        g.does(0, TAKE, 0);
        g.doNow(1, TAKE, 0);
        for (int i = 0; i < 2; i++) {
            g.does(0, STEP, RIGHT);
            g.doNow(1, STEP, UP);
        }
        due("life", g.x.body(0, 1), 1);
        due("cells", g.x.body(0, 0) * 100 + g.x.body(1, 0), 204);
        due("loads", g.x.body(0, 4) * 100 + g.x.body(1, 4), 203);
        return g;
    }

    private static void deathByShotDrops() {
        sentence("When a BODY's LIFE comes to 0 what it carries LIES in its CELL from then on");
        for (int kind = STONE; kind <= CROWN; kind++) {
            Game g = weakAndLaden(kind);
            g.doNow(1, SHOT, LEFT);
            due("dead", g.x.body(0, 1), 0);
            due("it lies", g.x.thing(2, 1), 2);
            due("nobody carries it", g.x.thing(2, 3), -1);
            due("nothing is carried", g.x.body(0, 4), -1);
            due("who shot carries on", g.x.body(1, 4), 3);
        }
    }

    private static void deathByThrowDrops() {
        sentence("When a BODY's LIFE comes to 0 what it carries LIES in its CELL from then on");
        Game g = weakAndLaden(CROWN);
        g.doNow(1, THROW, LEFT);
        due("dead", g.x.body(0, 1), 0);
        due("the crown lies", g.x.thing(2, 1), 2);
        due("the stone, too", g.x.thing(3, 1), 2);
        due("no point for that tick", g.x.body(0, 5), 3);
        due("nothing is carried", g.x.body(0, 4), -1);
    }

    private static void deathByBiteDrops() {
        sentence("When a BODY's LIFE comes to 0 what it carries LIES in its CELL from then on");
        Game g = new Game(3, 3, 1);
        g.places(CROWN, 0);
        g.places(BEAST, 1);
        g.doNow(0, TAKE, 0);
        g.steps(3);
        due("1 is left", g.x.body(0, 1), 1);
        due("carried", g.x.body(0, 4), 1);
        due("points", g.x.body(0, 5), 4);
        g.steps(1);
        due("dead", g.x.body(0, 1), 0);
        due("nothing is carried", g.x.body(0, 4), -1);
        due("it lies", g.x.thing(1, 1), 0);
        due("no point for that tick", g.x.body(0, 5), 4);
    }

    private static void lifeLeftDropsNothing() {
        sentence("When a BODY's LIFE comes to 0 what it carries LIES in its CELL from then on");
        Game g = new Game(3, 3, 2);
        g.places(LAMP, 0);
        g.does(0, TAKE, 0);
        g.doNow(1, STEP, UP);
        g.doNow(1, STEP, UP);
        g.doNow(1, SHOT, LEFT);
        due("hurt", g.x.body(0, 1), 4);
        due("still carried", g.x.body(0, 4), 2);
    }

    // ---- turns

    /** All have gone beside the middle of 3 times 3 and want into it; the first so many in turn keep still. */
    private static int winnerOf(int players, int t, int silent) {
        int[] there = {RIGHT, LEFT, DOWN, UP};
        int[] in = {DOWN, UP, LEFT, RIGHT};
        Game g = new Game(3, 3, players);
        for (int p = 0; p < players; p++) g.does(p, STEP, there[p]);
        g.stepsTo(t);
        for (int k = silent; k < players; k++) g.does((t + k) % players, STEP, in[(t + k) % players]);
        g.steps(1);
        int winner = -1;
        for (int p = 0; p < players; p++) if (g.x.body(p, 0) == 4) winner = winner < 0 ? p : 99;
        return winner;
    }

    private static void turnsBeginWithTheTick() {
        sentence("First the BODIES, beginning with player t modulo P, then the next ones in turn");
        for (int players = 1; players <= 4; players++) {
            for (int t = 1; t <= 9; t++) {
                for (int silent = 0; silent < players; silent++) {
                    due(players + " players, tick " + t + ", " + silent + " silent",
                        winnerOf(players, t, silent), (t + silent) % players);
                }
            }
        }
    }

    private static void theDeadDoNothing() {
        sentence("each that has LIFE then does its ACT");
        Game g = weakAndLaden(LAMP);
        g.does(0, SHOT, RIGHT);
        g.doNow(1, SHOT, LEFT);
        due("tick 3 begins with player 1", g.x.hit(3, 1), 1);
        due("so player 0 is dead and does nothing", g.x.hit(3, 0), 0);
        due("no rest", g.x.body(0, 3), 0);
        due("unhurt", g.x.body(1, 1), 5);
        Game h = weakAndLaden(LAMP);
        h.steps(1);
        h.does(0, SHOT, RIGHT);
        h.doNow(1, SHOT, LEFT);
        due("tick 4 begins with player 0", h.x.hit(4, 0), 2);
        due("who is shot then", h.x.hit(4, 1), 1);
        due("hurt", h.x.body(1, 1), 4);
        due("dead", h.x.body(0, 1), 0);
    }

    private static void waitDoesNothing() {
        sentence("0 WAIT");
        Game g = new Game(3, 3, 1);
        g.places(STONE, 0);
        g.doNow(0, STEP, UP);
        int[] before = new int[7];
        for (int i = 0; i < 7; i++) before[i] = g.x.body(0, i);
        g.doNow(0, WAIT, 0);
        for (int i = 0; i < 7; i++) due("body(0, " + i + ")", g.x.body(0, i), before[i]);
        due("no hit", g.x.hit(1, 0), 0);
    }

    // ---- STEP

    private static void stepTurnsTheFace() {
        sentence("1 STEP: FACE is d; if there is a CELL next in d that doesn't BAR");
        Game g = new Game(3, 3, 1);
        g.doNow(0, STEP, UP);
        due("at the upper edge", g.x.body(0, 2), UP);
        g.doNow(0, STEP, LEFT);
        due("at the left edge", g.x.body(0, 2), LEFT);
        due("its cell", g.x.body(0, 0), 0);
        Game h = new Game(3, 3, 2);
        h.doNow(1, STEP, DOWN);
        due("at the lower edge", h.x.body(1, 2), DOWN);
        h.doNow(1, STEP, RIGHT);
        due("at the right edge", h.x.body(1, 2), RIGHT);
        due("its cell", h.x.body(1, 0), 8);
        Game k = new Game(3, 3, 1);
        k.walls(3);
        k.doNow(0, STEP, DOWN);
        due("at a wall", k.x.body(0, 2), DOWN);
        due("its cell", k.x.body(0, 0), 0);
        Game m = new Game(3, 3, 1);
        m.x.door(3, 0);
        m.doNow(0, STEP, DOWN);
        due("at a shut door", m.x.body(0, 2), DOWN);
        due("its cell", m.x.body(0, 0), 0);
        Game n = new Game(3, 3, 1);
        n.doNow(0, STEP, DOWN);
        due("where it goes", n.x.body(0, 2), DOWN);
        due("its cell", n.x.body(0, 0), 3);
    }

    private static void stepIsHinderedByBodies() {
        sentence("and in which nothing STANDS, it goes there, and ENTERS");
        for (int kind = BEAST; kind <= WOLF; kind++) {
            Game g = new Game(3, 3, 1);
            g.places(kind, 3);
            g.doNow(0, STEP, DOWN);
            due("it stays", g.x.body(0, 0), 0);
            due("its face", g.x.body(0, 2), DOWN);
        }
        Game h = new Game(3, 3, 4);
        h.doNow(3, STEP, UP);
        h.doNow(0, STEP, DOWN);
        due("by a body", h.x.body(0, 0), 0);
        due("its face", h.x.body(0, 2), DOWN);
    }

    private static void stepGoesOverTheDead() {
        sentence("and in which nothing STANDS, it goes there, and ENTERS");
        Game g = new Game(3, 3, 1);
        g.places(BEAST, 3);
        g.doNow(0, SHOT, DOWN);
        g.steps(2);
        g.doNow(0, SHOT, DOWN);
        due("the beast is dead", g.x.thing(1, 2), 0);
        due("three bites", g.x.body(0, 1), 2);
        g.doNow(0, STEP, DOWN);
        due("over it", g.x.body(0, 0), 3);
        due("it is where it was", g.x.thing(1, 1), 3);
    }

    private static void stepGoesOverWhatLies() {
        sentence("and in which nothing STANDS, it goes there, and ENTERS");
        for (int kind = POT; kind <= CROWN; kind++) {
            Game g = new Game(3, 3, 1);
            g.places(kind, 3);
            g.doNow(0, STEP, DOWN);
            due("kind " + kind, g.x.body(0, 0), 3);
        }
    }

    // ---- SHOT

    private static void shotNeedsNoRest() {
        sentence("2 SHOT: if REST is 0: FACE is d, REST 3");
        Game g = new Game(10, 3, 1);
        g.places(BEAST, 6);
        g.does(0, SHOT, DOWN);
        g.sendsEarly(0, SHOT, RIGHT, 0, 1);
        g.sendsEarly(0, SHOT, RIGHT, 0, 2);
        g.steps(1);
        due("rest 3 falls to 2", g.x.body(0, 3), 2);
        due("face", g.x.body(0, 2), DOWN);
        sentence("(REST not 0: nothing at all.)");
        for (int rest = 2; rest >= 1; rest--) {
            g.steps(1);
            due("rest " + rest + ": no hit", g.x.hit(g.x.now - 1, 0), 0);
            due("rest falls", g.x.body(0, 3), rest - 1);
            due("the face stays", g.x.body(0, 2), DOWN);
        }
        due("unhurt", g.x.thing(1, 2), 2);
        g.doNow(0, SHOT, RIGHT);
        due("rest 0: a hit", g.x.hit(3, 0), 2);
        due("rest again", g.x.body(0, 3), 2);
        due("face", g.x.body(0, 2), RIGHT);
    }

    private static void shotGoesSevenRightAndDown() {
        sentence("the CELLS in d, at most 7, up to the edge or the first that BARS (without it)");
        for (int far = 1; far <= 9; far++) {
            Game g = new Game(10, 3, 1);
            g.places(BEAST, far);
            g.doNow(0, SHOT, RIGHT);
            due("right, " + far, g.x.hit(0, 0), far <= 7 ? 2 : 0);
            Game h = new Game(3, 10, 1);
            h.places(BEAST, 3 * far);
            h.doNow(0, SHOT, DOWN);
            due("down, " + far, h.x.hit(0, 0), far <= 7 ? 2 : 0);
        }
    }

    private static void shotGoesSevenLeftAndUp() {
        sentence("the CELLS in d, at most 7, up to the edge or the first that BARS (without it)");
        for (int far = 1; far <= 9; far++) {
            Game g = new Game(10, 3, 2);
            g.places(BEAST, 29 - far);
            g.doNow(1, SHOT, LEFT);
            due("left, " + far, g.x.hit(0, 1), far <= 7 ? 3 : 0);
            Game h = new Game(3, 10, 2);
            h.places(BEAST, 29 - 3 * far);
            h.doNow(1, SHOT, UP);
            due("up, " + far, h.x.hit(0, 1), far <= 7 ? 3 : 0);
        }
    }

    private static void shotEndsAtTheEdge() {
        sentence("the CELLS in d, at most 7, up to the edge or the first that BARS (without it)");
        Game g = new Game(6, 4, 4);
        g.places(BEAST, 6, 17);
        g.does(2, SHOT, RIGHT);
        g.doNow(3, SHOT, LEFT);
        due("right of row 0 is not row 1", g.x.hit(0, 2), 0);
        due("left of row 3 is not row 2", g.x.hit(0, 3), 0);
        due("there is rest all the same", g.x.body(2, 3), 2);
        Game h = new Game(6, 4, 4);
        int[] outwards = {UP, DOWN, UP, DOWN};
        for (int p = 0; p < 4; p++) h.does(p, SHOT, outwards[p]);
        h.steps(1);
        for (int p = 0; p < 4; p++) {
            due("no cell at all", h.x.hit(0, p), 0);
            due("but rest", h.x.body(p, 3), 2);
            due("and face", h.x.body(p, 2), outwards[p]);
        }
    }

    private static void shotEndsAtAWall() {
        sentence("the CELLS in d, at most 7, up to the edge or the first that BARS (without it)");
        for (int wall = 1; wall <= 7; wall++) {
            Game g = new Game(10, 3, 1);
            g.walls(wall);
            if (wall < 7) g.places(BEAST, wall + 1);
            g.doNow(0, SHOT, RIGHT);
            due("behind the wall", g.x.hit(0, 0), 0);
            if (wall == 1) continue;
            Game h = new Game(10, 3, 1);
            h.walls(wall);
            h.places(BEAST, wall - 1);
            h.doNow(0, SHOT, RIGHT);
            due("ahead of the wall", h.x.hit(0, 0), 2);
        }
    }

    private static void shotEndsAtAShutDoor() {
        sentence("the CELLS in d, at most 7, up to the edge or the first that BARS (without it)");
        Game g = new Game(10, 3, 1);
        g.x.door(1, 9);
        g.places(BEAST, 6);
        g.doNow(0, SHOT, RIGHT);
        due("shut", g.x.hit(0, 0), 0);
        g.opens(0, RIGHT, 9);
        g.steps(1);
        g.doNow(0, SHOT, RIGHT);
        due("open", g.x.hit(3, 0), 2);
    }

    private static void shotHitsTheFirstThatStands() {
        sentence("the first STANDING THING in it loses 1 LIFE: a HIT");
        Game g = new Game(10, 3, 1);
        g.places(POT, 1);
        g.places(STONE, 2);
        g.places(BEAST, 7, 6);
        for (int i = 0; i < 2; i++) {
            g.doNow(0, SHOT, RIGHT);
            due("the nearer, though its number is greater", g.x.hit(g.x.now - 1, 0), 5);
            due("the other is unhurt", g.x.thing(3, 2), 2);
            g.steps(2);
        }
        due("the nearer is dead", g.x.thing(4, 2), 0);
        g.doNow(0, SHOT, RIGHT);
        due("over the dead and what lies", g.x.hit(6, 0), 4);
        Game h = new Game(3, 3, 3);
        h.doNow(0, SHOT, RIGHT);
        due("a body", h.x.hit(0, 0), 3);
        due("its life", h.x.body(2, 1), 4);
        Game k = new Game(3, 3, 1);
        k.places(WOLF, 2);
        k.doNow(0, SHOT, RIGHT);
        due("a wolf", k.x.hit(0, 0), 2);
    }

    private static void shotTakesOneLife() {
        sentence("the first STANDING THING in it loses 1 LIFE: a HIT");
        Game g = new Game(10, 3, 1);
        g.places(WOLF, 7);
        for (int life = 2; life >= 0; life--) {
            g.doNow(0, SHOT, RIGHT);
            due("life", g.x.thing(1, 2), life);
            due("a hit", g.x.hit(g.x.now - 1, 0), 2);
            g.steps(2);
        }
        g.doNow(0, SHOT, RIGHT);
        due("no hit of the dead", g.x.hit(g.x.now - 1, 0), 0);
        due("still 0", g.x.thing(1, 2), 0);
    }

    // ---- OPEN

    private static void openTurnsTheFace() {
        sentence("3 OPEN: FACE is d");
        Game g = new Game(3, 3, 1);
        g.x.door(3, 9);
        g.opens(0, DOWN, 8);
        due("a wrong word", g.x.body(0, 2), DOWN);
        g.sendsEarly(0, OPEN, LEFT, 9, 2);
        g.sendsEarly(0, OPEN, RIGHT, 9, 3);
        g.steps(2);
        due("at the edge", g.x.body(0, 2), LEFT);
        g.steps(1);
        due("at a floor", g.x.body(0, 2), RIGHT);
        g.opens(0, DOWN, 9);
        due("the right word", g.x.body(0, 2), DOWN);
        due("it stays where it is", g.x.body(0, 0), 0);
    }

    private static void openNeedsADoorNext() {
        sentence("if next in d is a DOOR that is shut and w is its WORD, it is open from then on");
        Game g = new Game(4, 3, 1);
        g.x.door(2, 9);
        g.x.door(4, 9);
        g.x.door(11, 9);
        g.sendsEarly(0, OPEN, RIGHT, 9, 1);
        g.steps(2);
        for (int i = 0; i < 3; i++) due("two cells off, or elsewhere", g.x.open(i), 0);
        g.opens(0, DOWN, 9);
        due("the one next in d", g.x.open(1), 1);
        due("not the others", g.x.open(0) + g.x.open(2), 0);
        int[][] corners = {{RIGHT, DOWN}, {LEFT, UP}};
        for (int p = 0; p < 2; p++) {
            for (int d : corners[p]) {
                Game h = new Game(3, 3, 2);
                int[] steps = {-3, 1, 3, -1};
                h.x.door(8 * p + steps[d], 4);
                h.opens(p, d, 4);
                due("in direction " + d, h.x.open(0), 1);
            }
        }
    }

    private static void openNeedsItsWord() {
        sentence("if next in d is a DOOR that is shut and w is its WORD, it is open from then on");
        Game g = new Game(3, 3, 1);
        g.x.door(1, 6);
        g.x.door(3, 7);
        g.opens(0, RIGHT, 7);
        due("the word of another", g.x.open(0) + g.x.open(1), 0);
        g.opens(0, RIGHT, 6);
        due("its word", g.x.open(0), 1);
        due("not the other", g.x.open(1), 0);
    }

    private static void openStaysOpen() {
        sentence("if next in d is a DOOR that is shut and w is its WORD, it is open from then on");
        Game g = new Game(3, 3, 1);
        g.x.door(1, 6);
        g.opens(0, RIGHT, 6);
        g.opens(0, RIGHT, 6);
        due("its word again", g.x.open(0), 1);
        g.opens(0, RIGHT, 5);
        due("a wrong word", g.x.open(0), 1);
        g.steps(5);
        due("later", g.x.open(0), 1);
    }

    // ---- TAKE, PUT

    private static void takeTheLeastNumber() {
        sentence("it carries the LYING STONE, LAMP or CROWN with the least number in its CELL");
        for (int kind = STONE; kind <= CROWN; kind++) {
            Game g = new Game(3, 3, 1);
            for (int k = 0; k < 3; k++) g.places(STONE + (kind - STONE + k) % 3, 0);
            g.doNow(0, TAKE, 0);
            due("the first that was placed", g.x.body(0, 4), 1);
            due("its kind", g.x.thing(1, 0), kind);
            due("its carrier", g.x.thing(1, 3), 0);
            due("the others lie", g.x.thing(2, 1) + g.x.thing(3, 1), 0);
        }
    }

    private static void takeNeitherPotNorTrap() {
        sentence("it carries the LYING STONE, LAMP or CROWN with the least number in its CELL");
        Game g = new Game(3, 3, 1);
        g.places(POT, 0);
        g.places(TRAP, 0);
        g.doNow(0, TAKE, 0);
        due("nothing to take", g.x.body(0, 4), -1);
        Game h = new Game(3, 3, 1);
        h.places(POT, 0);
        h.places(TRAP, 0);
        h.places(STONE, 0);
        h.doNow(0, TAKE, 0);
        due("the stone", h.x.body(0, 4), 3);
    }

    private static void takeInItsCellAlone() {
        sentence("4 TAKE: if it carries nothing");
        Game g = new Game(3, 3, 2);
        g.places(STONE, 1, 3);
        g.doNow(0, TAKE, 0);
        due("beside it", g.x.body(0, 4), -1);
        due("it lies", g.x.thing(2, 1), 1);
        g.doNow(0, STEP, RIGHT);
        g.doNow(0, TAKE, 0);
        due("in it", g.x.body(0, 4), 2);
    }

    private static void putOfNothing() {
        sentence("5 PUT: what it carries LIES in its CELL");
        Game g = new Game(3, 3, 1);
        g.places(STONE, 1);
        g.sendsEarly(0, PUT, 0, 0, 1);
        int before = g.x.digest(0);
        g.steps(2);
        due("nothing is put", g.x.digest(2), before);
        g.doNow(0, STEP, RIGHT);
        g.doNow(0, TAKE, 0);
        g.doNow(0, STEP, DOWN);
        g.doNow(0, PUT, 0);
        due("in its cell", g.x.thing(1, 1), 4);
        due("nothing is carried", g.x.body(0, 4), -1);
        due("nobody carries it", g.x.thing(1, 3), -1);
    }

    // ---- THROW

    private static void throwGoesFour() {
        sentence("the STONE goes along the CELLS in d, at most 4, up to the edge or the first that BARS (without it)");
        for (int far = 4; far <= 6; far++) {
            Game g = new Game(10, 3, 1);
            g.places(STONE, 0);
            g.places(BEAST, far);
            g.does(0, TAKE, 0);
            g.sendsEarly(0, THROW, RIGHT, 0, 1);
            g.steps(1);
            int beast = g.x.thing(2, 1);
            due("it comes if it sees", beast, far == 4 ? 3 : far);
            g.steps(1);
            due("where the stone lies", g.x.thing(1, 1), far == 4 ? 3 : 4);
            due("a hit", g.x.hit(1, 0), far == 4 ? 3 : 0);
        }
        for (int far = 2; far <= 6; far++) {
            Game g = new Game(3, 10, 2);
            g.places(STONE, 29);
            g.doNow(1, TAKE, 0);
            for (int i = 0; i < 9 - far; i++) g.doNow(1, STEP, UP);
            due("so far", g.x.body(1, 0), 2 + 3 * far);
            g.doNow(1, STEP, LEFT);
            g.doNow(1, STEP, LEFT);
            g.doNow(1, THROW, UP);
            due("a hit of player 0, " + far + " cells up", g.x.hit(g.x.now - 1, 1), far <= 4 ? 1 : 0);
            due("the stone", g.x.thing(2, 1), far <= 4 ? 0 : 3 * (far - 4));
        }
    }

    private static void throwEndsAtTheEdge() {
        sentence("or else into the last of them (its own CELL, if there is none), and LIES there");
        int[] cells = {0, 2, 6, 0};
        for (int d = 0; d < 4; d++) {
            Game g = new Game(3, 3, 1);
            g.places(STONE, 0);
            g.doNow(0, TAKE, 0);
            g.doNow(0, THROW, d);
            due("direction " + d, g.x.thing(1, 1), cells[d]);
            due("nobody carries it", g.x.thing(1, 3), -1);
            due("nothing is carried", g.x.body(0, 4), -1);
            due("face", g.x.body(0, 2), d);
        }
        Game h = new Game(3, 3, 3);
        h.places(STONE, 2);
        h.places(BEAST, 3);
        h.doNow(2, TAKE, 0);
        h.doNow(2, THROW, RIGHT);
        due("right of row 0 is not row 1", h.x.thing(3, 1), 2);
        due("no hit", h.x.hit(1, 2), 0);
    }

    private static void throwEndsWhereItIsBarred() {
        sentence("or else into the last of them (its own CELL, if there is none), and LIES there");
        for (int far = 1; far <= 5; far++) {
            Game g = new Game(10, 3, 1);
            g.places(STONE, 0);
            g.walls(far);
            g.doNow(0, TAKE, 0);
            g.doNow(0, THROW, RIGHT);
            due("a wall at " + far, g.x.thing(1, 1), far - 1);
            Game h = new Game(10, 3, 1);
            h.places(STONE, 0);
            h.x.door(far, 9);
            h.doNow(0, TAKE, 0);
            h.doNow(0, THROW, RIGHT);
            due("a shut door at " + far, h.x.thing(1, 1), far - 1);
        }
        Game k = new Game(10, 3, 1);
        k.places(STONE, 0);
        k.x.door(1, 9);
        k.opens(0, RIGHT, 9);
        k.doNow(0, TAKE, 0);
        k.doNow(0, THROW, RIGHT);
        due("through an open door", k.x.thing(1, 1), 4);
    }

    private static void throwHitsTheFirstThatStands() {
        sentence("into the CELL of the first STANDING THING, which loses 1 LIFE (a HIT)");
        Game g = new Game(6, 3, 1);
        g.places(STONE, 0);
        g.places(LAMP, 1);
        g.places(BEAST, 4, 3);
        g.doNow(0, TAKE, 0);
        due("they come", g.x.thing(4, 1) * 10 + g.x.thing(3, 1), 24);
        g.doNow(0, THROW, RIGHT);
        due("the nearer is hit", g.x.hit(1, 0), 5);
        due("its life", g.x.thing(4, 2), 1);
        due("the other's", g.x.thing(3, 2), 2);
        due("the stone lies where it stood", g.x.thing(1, 1), 2);
        due("what lies is passed", g.x.thing(2, 1), 1);
        due("no rest", g.x.body(0, 3), 0);
    }

    private static void throwNeedsAStone() {
        sentence("(Not a STONE: nothing at all.)");
        for (int kind = LAMP; kind <= CROWN; kind++) {
            Game g = new Game(3, 3, 1);
            g.places(kind, 0);
            g.does(0, TAKE, 0);
            g.sendsEarly(0, THROW, DOWN, 0, 1);
            g.steps(2);
            due("it is carried", g.x.body(0, 4), 1);
            due("its cell", g.x.thing(1, 1), -2);
            due("the face stays", g.x.body(0, 2), RIGHT);
            due("no hit", g.x.hit(1, 0), 0);
        }
        Game h = new Game(3, 3, 1);
        h.places(STONE, 0);
        h.sendsEarly(0, THROW, DOWN, 0, 1);
        h.steps(2);
        due("nothing carried: the stone lies", h.x.thing(1, 1), 0);
        due("the face stays", h.x.body(0, 2), RIGHT);
        due("no hit", h.x.hit(1, 0), 0);
    }

    // ---- ENTERS

    /** Player 0 in CELL 0 has lost so many LIVES; CELL 3 has what is told. */
    private static Game weakened(int losses, int... kinds) {
        Game g = new Game(3, 3, 2);
        for (int kind : kinds) g.places(kind, 3);
        g.doNow(1, STEP, UP);
        g.doNow(1, STEP, UP);
        for (int i = 0; i < losses; i++) {
            g.doNow(1, SHOT, LEFT);
            g.steps(2);
        }
        due("life is left", g.x.body(0, 1), 5 - losses);
        g.doNow(0, STEP, DOWN);
        due("it went", g.x.body(0, 0), 3);
        return g;
    }

    private static void potGivesUpToFive() {
        sentence("a POT (for BODIES alone) gives 2 LIFE, up to 5 in all, and is GONE");
        int[] lives = {5, 5, 5, 4, 3};
        for (int losses = 0; losses <= 4; losses++) {
            Game g = weakened(losses, POT);
            due("life behind it", g.x.body(0, 1), lives[losses]);
            due("gone", g.x.thing(2, 1), -1);
        }
        for (int kind = BEAST; kind <= WOLF; kind++) {
            Game h = new Game(6, 3, 1);
            h.places(kind, 4);
            h.places(POT, 3, 2);
            h.steps(1);
            due("not for beasts", h.x.thing(1, 2), 1 + kind);
            due("it lies", h.x.thing(2, 1), 3);
        }
    }

    private static void potAndTrapByNumber() {
        sentence("ENTERS: for the LYING POTS and TRAPS in the CELL, by number, while it has LIFE");
        due("5, trap, pot", weakened(0, TRAP, POT).x.body(0, 1), 5);
        due("5, pot, trap", weakened(0, POT, TRAP).x.body(0, 1), 3);
        due("4, trap, pot", weakened(1, TRAP, POT).x.body(0, 1), 4);
        due("4, pot, trap", weakened(1, POT, TRAP).x.body(0, 1), 3);
        due("2, pot, trap", weakened(3, POT, TRAP).x.body(0, 1), 2);
        due("2, trap, pot", weakened(3, TRAP, POT).x.body(0, 1), 0);
        due("1, pot, trap", weakened(4, POT, TRAP).x.body(0, 1), 1);
    }

    private static void entersWhileItHasLife() {
        sentence("a TRAP takes 2 LIFE and is GONE");
        Game g = weakened(3, TRAP, POT, TRAP);
        due("the trap is gone", g.x.thing(2, 1), -1);
        due("the pot lies", g.x.thing(3, 1), 3);
        due("the second trap lies", g.x.thing(4, 1), 3);
        Game h = weakened(2, TRAP, TRAP, TRAP);
        due("3, 1, 0", h.x.body(0, 1), 0);
        due("the second is gone", h.x.thing(3, 1), -1);
        due("the third lies", h.x.thing(4, 1), 3);
    }

    private static void onlyWhoGoesEnters() {
        sentence("it goes there, and ENTERS");
        Game g = new Game(3, 3, 1);
        g.places(TRAP, 0);
        g.steps(1);
        g.doNow(0, STEP, LEFT);
        due("who stays enters nothing", g.x.body(0, 1), 5);
        due("the trap lies", g.x.thing(1, 1), 0);
        g.doNow(0, STEP, RIGHT);
        g.doNow(0, STEP, LEFT);
        due("who comes back does", g.x.body(0, 1), 3);
    }

    // ---- the end of a tick

    private static void crownGivesPoints() {
        sentence("the player whose BODY carries the CROWN has 1 POINT more");
        Game g = new Game(3, 3, 2);
        g.places(CROWN, 0);
        g.places(LAMP, 8);
        g.does(1, TAKE, 0);
        g.doNow(0, TAKE, 0);
        due("in the tick of the take", g.x.body(0, 5), 1);
        g.steps(1);
        due("and in the next", g.x.body(0, 5), 2);
        g.doNow(0, PUT, 0);
        due("not in that of the put", g.x.body(0, 5), 2);
        g.steps(1);
        due("nor while it lies", g.x.body(0, 5), 2);
        due("a lamp gives none", g.x.body(1, 5), 0);
    }

    private static void restFalls() {
        sentence("each REST above 0 falls by 1");
        Game g = new Game(3, 3, 2);
        g.does(0, SHOT, UP);
        g.steps(1);
        g.does(1, SHOT, DOWN);
        int[][] rests = {{1, 2}, {0, 1}, {0, 0}, {0, 0}};
        for (int[] r : rests) {
            g.steps(1);
            due("of player 0", g.x.body(0, 3), r[0]);
            due("of player 1", g.x.body(1, 3), r[1]);
        }
        Game h = new Game(3, 3, 1);
        h.places(TRAP, 1, 1, 1);
        h.doNow(0, SHOT, UP);
        h.doNow(0, STEP, RIGHT);
        due("of the dead, too", h.x.body(0, 1) * 10 + h.x.body(0, 3), 1);
        h.steps(1);
        due("down to 0", h.x.body(0, 3), 0);
        h.steps(1);
        due("and no further", h.x.body(0, 3), 0);
    }

    private static void plateTellsTheLiving() {
        sentence("each living BODY in a PLATE's CELL has that PLATE's DOOR in KNOWN from then on (at tick 0, too)");
        Game g = new Game(3, 3, 2);
        g.x.door(4, 0);
        g.x.door(5, 0);
        g.x.plate(0, 1);
        due("at tick 0", g.x.body(0, 6), 2);
        due("the other", g.x.body(1, 6), 0);
        g.x.plate(1, 0);
        g.doNow(0, STEP, RIGHT);
        due("one more", g.x.body(0, 6), 3);
        g.doNow(0, STEP, RIGHT);
        due("from then on", g.x.body(0, 6), 3);
        Game h = new Game(3, 3, 1);
        h.x.door(4, 0);
        h.x.plate(1, 0);
        h.places(TRAP, 1, 1, 1);
        h.doNow(0, STEP, RIGHT);
        due("dead in its cell", h.x.body(0, 0) + 10 * h.x.body(0, 1), 1);
        due("the dead know nothing", h.x.body(0, 6), 0);
        Game k = new Game(3, 3, 1);
        k.x.door(4, 0);
        k.x.plate(1, 0);
        k.places(TRAP, 1, 1);
        k.doNow(0, STEP, RIGHT);
        due("with 1 it knows", k.x.body(0, 6), 1);
    }

    private static void cellsOfTheGoneAndTheCarried() {
        sentence("GONE THINGS have CELL -1, carried ones -2");
        Game g = new Game(3, 3, 1);
        g.places(POT, 1);
        g.places(TRAP, 1);
        g.places(STONE, 1);
        g.doNow(0, STEP, RIGHT);
        g.doNow(0, TAKE, 0);
        due("a pot", g.x.thing(1, 1), -1);
        due("a trap", g.x.thing(2, 1), -1);
        due("a stone", g.x.thing(3, 1), -2);
        Game h = new Game(6, 3, 1);
        h.places(BEAST, 4);
        h.places(TRAP, 3);
        h.steps(1);
        due("the dead have their cell", h.x.thing(1, 1), 3);
    }

    /** With all THINGS that there can be, each ACT finds or doesn't find the last of them. */
    private static void sixteenThings() {
        sentence("THINGS are numbered 0 .. 15");
        Game g = new Game(8, 3, 1);
        for (int n = 1; n < 15; n++) g.places(POT, 9);
        g.places(CROWN, 1);
        g.doNow(0, TAKE, 0);
        due("nothing to take", g.x.body(0, 4), -1);
        g.doNow(0, SHOT, RIGHT);
        due("nobody to hit", g.x.hit(1, 0), 0);
        g.doNow(0, STEP, RIGHT);
        g.doNow(0, TAKE, 0);
        due("the last", g.x.body(0, 4), 15);
        g.doNow(0, STEP, DOWN);
        for (int n = 1; n < 15; n++) due("pots are gone", g.x.thing(n, 1), -1);
        Game h = new Game(8, 3, 1);
        for (int n = 1; n < 15; n++) h.places(STONE, 0);
        h.places(TRAP, 1);
        h.doNow(0, STEP, RIGHT);
        due("the last is entered", h.x.thing(15, 1), -1);
        due("life", h.x.body(0, 1), 3);
        Game k = new Game(8, 3, 1);
        for (int n = 1; n < 15; n++) k.places(STONE, 0);
        k.places(BEAST, 7);
        k.doNow(0, SHOT, RIGHT);
        due("the last is hit", k.x.hit(0, 0), 16);
    }

    private static void beastBehindFourPlayers() {
        sentence("When a BODY's LIFE comes to 0 what it carries LIES in its CELL from then on");
        Game g = new Game(10, 10, 4);
        g.places(BEAST, 4);
        g.places(TRAP, 3);
        g.steps(1);
        due("thing 4 dies, and nothing is dropped", g.x.thing(4, 2) * 10 + g.x.thing(4, 1), 3);
        for (int p = 0; p < 4; p++) due("a body", g.x.body(p, 1), 5);
    }

    // ---- promises 11 to 14

    private static void stepCounts() {
        sentence("NOW becomes one more; the tick that is SETTLED by it, if one is, is looked at: NOW");
        Judge x = new Judge();
        due("at first", x.count(5), 0);
        for (int t = 1; t <= 12; t++) {
            due("step", x.step(), t);
            due("now", x.count(5), t);
        }
    }

    private static void stepIsFull() {
        sentence("FULL: NOW is 500");
        Game g = new Game(3, 3, 1);
        g.x.late(8);
        g.x.door(1, 5);
        g.stepsTo(491);
        g.opens(0, RIGHT, 4);
        g.opens(0, RIGHT, 4);
        g.stepsTo(499);
        due("499 to 500", g.x.step(), 500);
        due("tick 491 is looked at", g.x.watch(0, 0, 0), 1);
        due("no tick more", g.x.step(), FULL);
        due("now stays", g.x.count(5), 500);
        due("nothing is looked at", g.x.watch(0, 0, 0), 1);
    }

    private static void bodyAnswers() {
        sentence("what 0 the BODY's CELL, 1 LIFE, 2 FACE, 3 REST, 4 the THING it carries (-1: none), 5 POINTS, 6 KNOWN");
        Game g = new Game(4, 3, 1);
        g.x.door(8, 3);
        g.x.plate(0, 0);
        g.places(CROWN, 0);
        g.places(TRAP, 1);
        g.doNow(0, TAKE, 0);
        g.doNow(0, STEP, RIGHT);
        g.doNow(0, SHOT, LEFT);
        int[] want = {1, 3, LEFT, 2, 1, 3, 1};
        for (int i = 0; i < 7; i++) due("body(0, " + i + ")", g.x.body(0, i), want[i]);
        sentence("NONE: no such player, what");
        int[] whats = {-1, 7, MIN, MAX};
        for (int w : whats) due("what " + w, g.x.body(0, w), NONE);
        for (int players = 1; players <= 4; players++) {
            Game h = new Game(3, 3, players);
            due("the last player", h.x.body(players - 1, 1), 5);
            int[] none = {-1, players, 4, MIN, MAX};
            for (int p : none) due("player " + p, h.x.body(p, 1), NONE);
        }
    }

    private static void thingAnswers() {
        sentence("what 0 KIND, 1 CELL, 2 LIFE, 3 the THING that carries it (-1: none)");
        Game g = new Game(4, 3, 2);
        g.places(STONE, 11);
        g.places(WOLF, 3);
        g.doNow(1, TAKE, 0);
        int[] stone = {STONE, -2, 0, 1};
        int[] body = {0, 11, 4, -1};
        for (int i = 0; i < 4; i++) {
            due("thing(2, " + i + ")", g.x.thing(2, i), stone[i]);
            due("thing(1, " + i + ")", g.x.thing(1, i), body[i]);
        }
        sentence("NONE: no such THING, what");
        int[] whats = {-1, 4, MIN, MAX};
        for (int w : whats) due("what " + w, g.x.thing(0, w), NONE);
        int[] none = {-1, 4, 15, 16, MIN, MAX};
        for (int n : none) due("thing " + n, g.x.thing(n, 0), NONE);
        due("the last", g.x.thing(3, 0), WOLF);
        Game h = new Game(3, 3, 4);
        h.places(POT, 1, 1, 1, 1, 1, 1, 1, 1, 1, 1, 1, 1);
        due("thing 15", h.x.thing(15, 0), POT);
        due("thing 16", h.x.thing(16, 0), NONE);
    }

    private static void openAnswers() {
        sentence("Whether a DOOR is open at NOW (1, 0). NONE: no such DOOR");
        Game g = new Game(5, 5, 1);
        due("no door", g.x.open(0), NONE);
        g.x.door(1, 0);
        for (int i = 1; i < 8; i++) g.x.door(10 + i, 3);
        g.opens(0, RIGHT, 0);
        due("open", g.x.open(0), 1);
        due("the last, shut", g.x.open(7), 0);
        int[] none = {-1, 8, MIN, MAX};
        for (int d : none) due("door " + d, g.x.open(d), NONE);
    }
}
