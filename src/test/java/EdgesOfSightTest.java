/** The boundary cases of SEES (part I), of DIGESTS (II), of LETTERS (III) and of promises 15 to 18, a test for each sentence. */
public final class EdgesOfSightTest extends Check {
    public static void main(String[] args) {
        reachIsFour();
        reachIsSixWithALamp();
        lampMustBeCarried();
        raysEndAheadOfTheCell();
        raysAreRounded();
        neighboursAreSeen();
        whatBarsTheSight();
        sightMovesWithTheBody();
        seesOfTheDead();
        seesHasPlayersAndCells();
        toldIsMinusOne();
        toldTellsTheMap();
        toldCountsThings();
        toldLeavesOut();
        toldHasPlayersAndCells();
        letterOfTheDead();
        letterOfAFullCell();
        letterOfDoorsAndRest();
        letterLeavesOut();
        letterHasPlayers();
        windowOfLettersAndDigests();
        windowAtTheEnd();
        lettersAfterGoingBack();
        digestOfAFullWorld();
        digestOfTheDeadAndTheGone();
        numbersBelowNought();
        end("EdgesOfSightTest");
    }

    // ---- SEES

    /** The columns or rows, whichever are more, between a corner's BODY and a CELL of the world of 10 times 10. */
    private static int farFrom(int p, int cell) {
        int x = cell % 10;
        int y = cell / 10;
        int dx = p == 1 || p == 2 ? 9 - x : x;
        int dy = p == 1 || p == 3 ? 9 - y : y;
        return Math.max(dx, dy);
    }

    private static void reachIsFour() {
        sentence("A CELL a SEES a CELL b within R: its columns and its rows differ by at most R each (dx, dy from a to b)");
        Game g = new Game(10, 10, 4);
        for (int p = 0; p < 4; p++) {
            for (int c = 0; c < 100; c++) due("player " + p + ", cell " + c, g.x.sees(p, c), farFrom(p, c) <= 4 ? 1 : 0);
        }
    }

    private static void reachIsSixWithALamp() {
        sentence("R is 4, but 6 for a BODY that carries a LAMP");
        Game g = new Game(10, 10, 4);
        g.places(LAMP, 0, 99, 9, 90);
        for (int p = 0; p < 4; p++) g.does(p, TAKE, 0);
        g.steps(1);
        for (int p = 0; p < 4; p++) {
            for (int c = 0; c < 100; c++) due("player " + p + ", cell " + c, g.x.sees(p, c), farFrom(p, c) <= 6 ? 1 : 0);
        }
    }

    private static void lampMustBeCarried() {
        sentence("R is 4, but 6 for a BODY that carries a LAMP");
        Game g = new Game(10, 3, 1);
        g.places(LAMP, 0);
        due("it lies here", g.x.sees(0, 5), 0);
        g.doNow(0, TAKE, 0);
        due("carried: 5", g.x.sees(0, 5), 1);
        due("carried: 6", g.x.sees(0, 6), 1);
        due("carried: 7", g.x.sees(0, 7), 0);
        g.doNow(0, PUT, 0);
        due("put: 5", g.x.sees(0, 5), 0);
        due("put: 4", g.x.sees(0, 4), 1);
        int[] others = {STONE, CROWN};
        for (int kind : others) {
            Game h = new Game(10, 3, 1);
            h.places(kind, 0);
            h.doNow(0, TAKE, 0);
            due("no lamp", h.x.sees(0, 5), 0);
        }
        Game k = new Game(10, 3, 2);
        k.places(LAMP, 29);
        k.doNow(1, TAKE, 0);
        due("another's lamp", k.x.sees(0, 5), 0);
        due("its own", k.x.sees(1, 23), 1);
    }

    private static void raysEndAheadOfTheCell() {
        sentence("for each k from 1 to N - 1 the CELL in column");
        for (int wall = 1; wall <= 4; wall++) {
            Game g = new Game(6, 6, 1);
            g.walls(wall, 6 * wall, 7 * wall);
            for (int k = 0; k <= 4; k++) {
                int seen = k <= wall ? 1 : 0;
                due("in a row with the wall at " + wall, g.x.sees(0, k), seen);
                due("in a column", g.x.sees(0, 6 * k), seen);
                due("aslant", g.x.sees(0, 7 * k), seen);
            }
        }
    }

    private static int floor(int n, int d) {
        return n >= 0 ? n / d : -((-n + d - 1) / d);
    }

    /** Whether the way from one CELL to another, in a world of 7 columns, leads through a third. */
    private static boolean leadsThrough(int a, int b, int third) {
        int dx = b % 7 - a % 7;
        int dy = b / 7 - a / 7;
        int n = Math.max(Math.abs(dx), Math.abs(dy));
        for (int k = 1; k <= n - 1; k++) {
            int column = a % 7 + floor(2 * k * dx + n, 2 * n);
            int row = a / 7 + floor(2 * k * dy + n, 2 * n);
            if (third == row * 7 + column) return true;
        }
        return false;
    }

    /** One wall in every place there is, all four corners, all CELLS; halves are rounded right and down. */
    private static void raysAreRounded() {
        sentence("the CELL in column x(a) + floor((2 k dx + N) / 2 N), row y(a) + floor((2 k dy + N) / 2 N) doesn't BAR");
        int[] corners = {0, 48, 6, 42};
        for (int wall = 1; wall < 48; wall++) {
            if (wall == 6 || wall == 42) continue;
            Game g = new Game(7, 7, 4);
            g.walls(wall);
            for (int p = 0; p < 4; p++) {
                for (int c = 0; c < 49; c++) {
                    int dx = Math.abs(c % 7 - corners[p] % 7);
                    int dy = Math.abs(c / 7 - corners[p] / 7);
                    boolean seen = dx <= 4 && dy <= 4 && !leadsThrough(corners[p], c, wall);
                    due("player " + p + ", cell " + c + ", wall " + wall, g.x.sees(p, c), seen ? 1 : 0);
                }
            }
        }
        Game h = new Game(5, 5, 2);
        h.walls(6, 23);
        due("2 right, 1 down leads through 1 right, 1 down", h.x.sees(0, 7), 0);
        due("2 left, 1 up leads through 1 left alone", h.x.sees(1, 17), 0);
        Game k = new Game(5, 5, 2);
        k.walls(1, 18);
        due("and not through 1 right alone", k.x.sees(0, 7), 1);
        due("and not through 1 left, 1 up", k.x.sees(1, 17), 1);
    }

    private static void neighboursAreSeen() {
        sentence("(Each CELL SEES itself and those beside it.)");
        Game g = new Game(3, 3, 1);
        g.walls(1, 3, 4);
        int[] seen = {1, 1, 0, 1, 1, 0, 0, 0, 0};
        for (int c = 0; c < 9; c++) due("walled in, cell " + c, g.x.sees(0, c), seen[c]);
    }

    private static void whatBarsTheSight() {
        sentence("A CELL BARS if it is WALL, or a DOOR that is shut");
        Game g = new Game(5, 3, 1);
        g.x.door(1, 9);
        g.x.plate(5, 0);
        due("a shut door", g.x.sees(0, 2), 0);
        due("a plate", g.x.sees(0, 10), 1);
        g.opens(0, RIGHT, 8);
        due("still shut", g.x.sees(0, 2), 0);
        g.opens(0, RIGHT, 9);
        due("an open door", g.x.sees(0, 2), 1);
        Game h = new Game(5, 3, 1);
        h.places(BEAST, 1);
        for (int kind = POT; kind <= CROWN; kind++) h.places(kind, 1);
        due("things don't bar", h.x.sees(0, 2), 1);
    }

    private static void sightMovesWithTheBody() {
        sentence("A THING SEES from its CELL");
        Game g = new Game(10, 3, 1);
        for (int i = 0; i < 5; i++) g.doNow(0, STEP, RIGHT);
        int[] cells = {0, 1, 9, 20, 21, 29};
        int[] seen = {0, 1, 1, 0, 1, 1};
        for (int i = 0; i < 6; i++) due("from 5, cell " + cells[i], g.x.sees(0, cells[i]), seen[i]);
    }

    // ---- promise 15

    private static Game withLife(int traps) {
        Game g = new Game(3, 3, 2);
        for (int i = 0; i < traps; i++) g.places(TRAP, 1);
        g.doNow(0, STEP, RIGHT);
        return g;
    }

    private static void seesOfTheDead() {
        sentence("Whether player p's BODY SEES a CELL at NOW (1, 0; 0 if it has no LIFE)");
        Game g = withLife(2);
        due("1 is left", g.x.body(0, 1), 1);
        for (int c = 0; c < 9; c++) due("it sees", g.x.sees(0, c), 1);
        Game h = withLife(3);
        due("none is left", h.x.body(0, 1), 0);
        for (int c = 0; c < 9; c++) due("it doesn't", h.x.sees(0, c), 0);
        due("nor is there a cell 9", h.x.sees(0, 9), NONE);
    }

    private static void seesHasPlayersAndCells() {
        sentence("NONE: no such player, CELL");
        for (int players = 1; players <= 4; players++) {
            Game g = new Game(3, 4, players);
            due("the last player", g.x.sees(players - 1, 4), 1);
            int[] none = {-1, players, 4, MIN, MAX};
            for (int p : none) due("player " + p, g.x.sees(p, 0), NONE);
            int[] cells = {-1, 12, MIN, MAX};
            for (int c : cells) due("cell " + c, g.x.sees(0, c), NONE);
            due("the first cell", g.x.sees(0, 0), 1);
            due("the last cell", g.x.sees(0, 11), 1);
        }
    }

    // ---- promise 16

    private static void toldIsMinusOne() {
        sentence("-1 if its BODY doesn't SEE it, or has no LIFE");
        Game g = new Game(10, 3, 1);
        due("seen", g.x.told(0, 4), 0);
        due("not seen", g.x.told(0, 5), -1);
        Game h = withLife(2);
        for (int c = 0; c < 9; c++) due("with 1", h.x.told(0, c), c == 1 || c == 8 ? 8 : 0);
        Game k = withLife(3);
        for (int c = 0; c < 9; c++) due("without", k.x.told(0, c), -1);
        due("the other is told on", k.x.told(1, 8), 8);
        due("of the dead nothing", k.x.told(1, 1), 0);
    }

    private static void toldTellsTheMap() {
        sentence("MAP of a CELL: 0 FLOOR, 1 WALL, 2 DOOR, 3 PLATE");
        Game g = new Game(3, 3, 1);
        g.x.door(1, 2);
        g.x.door(3, 2);
        g.walls(4);
        g.x.plate(0, 0);
        g.opens(0, RIGHT, 2);
        due("a plate, a body", g.x.told(0, 0), 3 + 8);
        sentence("else its MAP (4 for a DOOR that is open)");
        due("an open door", g.x.told(0, 1), 4);
        due("floor", g.x.told(0, 2), 0);
        due("a shut door", g.x.told(0, 3), 2);
        due("a wall", g.x.told(0, 4), 1);
        g.doNow(0, STEP, RIGHT);
        due("a body in an open door", g.x.told(0, 1), 4 + 8);
    }

    private static void toldCountsThings() {
        sentence("and 8 times the number of THINGS, no TRAPS, that STAND or LIE there");
        Game g = new Game(3, 3, 1);
        for (int n = 1; n < 16; n++) {
            due("so many", g.x.told(0, 1), 8 * (n - 1));
            g.places(n == 7 ? BEAST : POT + 2 * (n % 3), 1);
        }
        due("all 15", g.x.told(0, 1), 8 * 15);
        Game h = new Game(3, 3, 1);
        for (int kind = BEAST; kind <= CROWN; kind++) {
            h.x.begin(3, 3, 1);
            h.places(kind, 8);
            due("kind " + kind, h.x.told(0, 8), kind == TRAP ? 0 : 8);
        }
    }

    private static void toldLeavesOut() {
        sentence("and 8 times the number of THINGS, no TRAPS, that STAND or LIE there");
        Game g = new Game(4, 3, 1);
        g.places(TRAP, 1, 1);
        g.places(POT, 2);
        g.places(LAMP, 0);
        due("traps", g.x.told(0, 1), 0);
        g.doNow(0, TAKE, 0);
        due("what is carried", g.x.told(0, 0), 8);
        g.doNow(0, STEP, RIGHT);
        g.doNow(0, STEP, RIGHT);
        g.doNow(0, STEP, LEFT);
        due("what is gone", g.x.told(0, 2), 0);
        Game h = new Game(6, 3, 1);
        h.places(BEAST, 4);
        h.places(TRAP, 3);
        due("a living beast", h.x.told(0, 4), 8);
        h.steps(1);
        due("a dead one", h.x.told(0, 3), 0);
        Game k = new Game(6, 3, 1);
        k.places(WOLF, 4);
        k.places(TRAP, 3, 3);
        due("a living wolf", k.x.told(0, 4), 8);
        k.steps(1);
        due("a dead one", k.x.told(0, 3), 0);
    }

    private static void toldHasPlayersAndCells() {
        sentence("What player p is told of a CELL at NOW");
        for (int players = 1; players <= 4; players++) {
            Game g = new Game(3, 4, players);
            due("the last player", g.x.told(players - 1, 4), 0);
            int[] none = {-1, players, 4, MIN, MAX};
            for (int p : none) due("player " + p, g.x.told(p, 4), NONE);
            int[] cells = {-1, 12, MIN, MAX};
            for (int c : cells) due("cell " + c, g.x.told(0, c), NONE);
            due("the last cell", g.x.told(0, 11), players > 1 ? 8 : 0);
        }
    }

    // ---- LETTERS

    private static void letterOfTheDead() {
        sentence("LETTERS to player p at a STATE. Its BODY has no LIFE: 0");
        Game g = withLife(2);
        int[] with1 = {0, 1, 512, 2, 3, 4, 5, 6, 7, 8, 1 + 512 * 5, 1, 0};
        due("with 1", g.x.letter(0, 1), fold(1, with1));
        Game h = withLife(3);
        due("without", h.x.letter(0, 1), 0);
        int[] before = {0, 512 * 5, 1, 2, 3, 4, 5, 6, 7, 8, 1 + 512 * 5, 5, 0};
        due("ahead of its death", h.x.letter(0, 0), fold(1, before));
    }

    /** THINGS 1 to 14 lie with the BODY, it carries the 15th; doors all round. */
    private static Game fullCell() {
        Game g = new Game(3, 3, 1);
        for (int c = 1; c < 9; c++) due("a door", g.x.door(c, c), c - 1);
        g.x.plate(0, 7);
        for (int n = 1; n < 15; n++) g.places(POT, 0);
        g.places(STONE, 0);
        g.doNow(0, TAKE, 0);
        return g;
    }

    private static void letterOfAFullCell() {
        sentence("then for each THING that STANDS or LIES there, by number, no TRAPS: L becomes 31 L + (number + 32 KIND + 512 LIFE)");
        Game g = fullCell();
        int sum = fold(1, 128 * 3, 512 * 5);
        for (int n = 1; n < 15; n++) sum = fold(sum, n + 32 * POT);
        sum = fold(sum, 1 + 128 * 2, 3 + 128 * 2, 4 + 128 * 2);
        sentence("at last L becomes 31 L + (LIFE + 8 REST + 64 (1 more than the THING it carries, 0: none)), then 31 L + KNOWN");
        due("letter", g.x.letter(0, 1), fold(sum, 5 + 64 * 16, 128));
    }

    private static void letterOfDoorsAndRest() {
        sentence("for each CELL that its BODY SEES, rising: L becomes 31 L + (number + 128 (MAP, but 4 for a DOOR that is open))");
        Game g = new Game(3, 3, 1);
        g.x.door(1, 6);
        g.walls(3);
        g.x.plate(2, 0);
        g.places(WOLF, 6);
        g.places(CROWN, 2);
        g.opens(0, RIGHT, 6);
        g.doNow(0, SHOT, UP);
        int[] wanted = {0, 512 * 5, 1 + 128 * 4, 2 + 128 * 3, 2 + 32 * CROWN, 3 + 128, 4, 5, 7, 8, 5 + 8 * 2, 0};
        due("the wolf is hidden", g.x.thing(1, 1), 6);
        due("letter", g.x.letter(0, 2), fold(1, wanted));
    }

    private static void letterLeavesOut() {
        sentence("then for each THING that STANDS or LIES there, by number, no TRAPS: L becomes 31 L + (number + 32 KIND + 512 LIFE)");
        Game g = new Game(3, 3, 1);
        g.places(TRAP, 0);
        g.places(BEAST, 2);
        g.places(TRAP, 1);
        g.places(LAMP, 5);
        g.steps(1);
        due("the beast is dead", g.x.thing(2, 2), 0);
        int[] wanted = {0, 512 * 5, 1, 2, 3, 4, 5, 4 + 32 * LAMP, 6, 7, 8, 5, 0};
        due("neither traps nor the dead", g.x.letter(0, 1), fold(1, wanted));
        Game h = new Game(3, 3, 1);
        h.places(WOLF, 2);
        h.places(TRAP, 1, 1);
        h.steps(1);
        due("the wolf is dead", h.x.thing(1, 2) * 10 + h.x.thing(1, 1), 1);
        int[] alone = {0, 512 * 5, 1, 2, 3, 4, 5, 6, 7, 8, 5, 0};
        due("nor a dead wolf", h.x.letter(0, 1), fold(1, alone));
    }

    private static void letterHasPlayers() {
        sentence("NONE: no such player; t is not NOW - 8 .. NOW, or is below 0");
        for (int players = 1; players <= 4; players++) {
            Game g = new Game(3, 3, players);
            int[] none = {-1, players, 4, MIN, MAX};
            for (int p : none) due("player " + p, g.x.letter(p, 0), NONE);
            due("the last player", g.x.letter(players - 1, 0) == NONE ? 1 : 0, 0);
        }
    }

    // ---- promises 17 and 18: which ticks

    private static void windowOfLettersAndDigests() {
        sentence("t is not NOW - 8 .. NOW, or is below 0");
        Game g = new Game(7, 7, 1);
        int[] digests = new int[30];
        int[] letters = new int[30];
        for (int now = 0; now < 16; now++) {
            digests[now] = g.x.digest(now);
            letters[now] = g.x.letter(0, now);
            for (int t = now - 10; t <= now + 1; t++) {
                boolean kept = t >= 0 && t >= now - 8 && t <= now;
                due("digest(" + t + ") at " + now, g.x.digest(t), kept ? digests[t] : NONE);
                due("letter(0, " + t + ") at " + now, g.x.letter(0, t), kept ? letters[t] : NONE);
            }
            g.doNow(0, STEP, now % 7 < 4 ? RIGHT : DOWN);
        }
    }

    private static void windowAtTheEnd() {
        sentence("t is not NOW - 8 .. NOW, or is below 0");
        int[] none = {491, 501, MIN, MAX, -1};
        Game g = new Game(3, 3, 1);
        int digest = g.x.digest(0);
        g.stepsTo(500);
        due("digest(492)", g.x.digest(492), digest);
        due("digest(500)", g.x.digest(500), digest);
        for (int t : none) due("digest(" + t + ")", g.x.digest(t), NONE);
        Game h = new Game(3, 3, 1);
        int letter = h.x.letter(0, 0);
        h.stepsTo(500);
        due("letter(0, 492)", h.x.letter(0, 492), letter);
        due("letter(0, 500)", h.x.letter(0, 500), letter);
        for (int t : none) due("letter(0, " + t + ")", h.x.letter(0, t), NONE);
    }

    private static void lettersAfterGoingBack() {
        sentence("the STATES from t + 1 to NOW are worked anew");
        Game g = new Game(7, 3, 1);
        g.x.late(8);
        g.steps(8);
        int waited = g.x.letter(0, 0);
        for (int t = 1; t <= 8; t++) due("nothing happened", g.x.letter(0, t), waited);
        due("eight back", g.send(0, STEP, RIGHT, 0, 0), 8);
        due("letter(0, 0) stays", g.x.letter(0, 0), waited);
        int[] gone = {0, 1, 512 * 5, 2, 3, 4, 5, 7, 8, 9, 10, 11, 12, 14, 15, 16, 17, 18, 19, 5, 0};
        for (int t = 1; t <= 8; t++) due("the step is seen", g.x.letter(0, t), fold(1, gone));
    }

    // ---- DIGEST

    private static void digestOfAFullWorld() {
        sentence("DIGEST of a STATE, in int arithmetic: D is 7; for each THING in order D becomes 31 D + x");
        Game g = fullCell();
        int sum = fold(7, 0, 5, 1, 0, 16, 0);
        for (int n = 1; n < 15; n++) sum = fold(sum, 0, 0, 0, 0, 0, 0);
        sum = fold(sum, -2, 0, 0, 0, 0, 1);
        due("doors, points, known", g.x.digest(1), fold(sum, 0, 0, 0, 0, 0, 0, 0, 0, 0, 128));
        sentence("for each DOOR x is 1 if it is open, else 0; for each player x is POINTS, then KNOWN (the sum of 2^number)");
        Game h = new Game(3, 3, 4);
        h.places(CROWN, 6);
        h.x.door(7, 1);
        h.x.door(4, 1);
        h.does(0, SHOT, UP);
        h.doNow(3, TAKE, 0);
        h.opens(3, RIGHT, 1);
        int[] wanted = {0, 5, 0, 1, 0, 0, 8, 5, 1, 0, 0, 0, 2, 5, 1, 0, 0, 0, 6, 5, 1, 0, 5, 0, -2, 0, 0, 0, 0, 4,
            1, 0, 0, 0, 0, 0, 0, 0, 2, 0};
        due("four players", h.x.digest(2), fold(7, wanted));
    }

    private static void digestOfTheDeadAndTheGone() {
        sentence("x its CELL, LIFE, FACE (0 but for BODIES), REST (0 but for BODIES)");
        Game g = new Game(3, 3, 1);
        g.places(TRAP, 3, 3, 3);
        g.places(BEAST, 8);
        g.doNow(0, STEP, DOWN);
        int[] wanted = {3, 0, 2, 0, 0, 0, -1, 0, 0, 0, 0, 0, -1, 0, 0, 0, 0, 0, -1, 0, 0, 0, 0, 0, 8, 2, 0, 0, 0, 0, 0, 0};
        due("the dead have cell and face, the gone have none", g.x.digest(1), fold(7, wanted));
    }

    private static void numbersBelowNought() {
        sentence("(It may be a number below 0.)");
        Judge x = new Judge();
        due("a letter", x.letter(0, 0), -1742594516);
        x.step();
        x.step();
        due("a digest", x.digest(2), -221741921);
        due("worked anew", x.replay(2), -221741921);
        due("which is as it was", x.fall(), 1);
    }
}
