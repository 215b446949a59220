/** The boundary cases of part II's BEASTS and WOLVES, a test for each sentence. */
public final class EdgesOfBeastsTest extends Check {
    public static void main(String[] args) {
        bodiesGoFirst();
        byNumber();
        theDeadDoNothing();
        seesFour();
        lampsAreForBodies();
        seesThroughNothingThatBars();
        theLiving();
        theNearest();
        distancesAreAdded();
        tiesTheLeastNumber();
        bitesAtOne();
        bitesAreNoHits();
        byColumnsOrRows();
        otherWayRoundAWall();
        otherWayRoundOneWhoStands();
        otherWayIsBarred();
        otherWayIsNone();
        whereItGoesItEnters();
        wolfGoesTwice();
        wolfBitesOnce();
        wolfNeedsLifeForTheSecond();
        wolfChoosesAnew();
        end("EdgesOfBeastsTest");
    }

    private static void bodiesGoFirst() {
        sentence("Then the BEASTS and WOLVES, by number, that have LIFE");
        Game g = new Game(5, 3, 1);
        g.places(BEAST, 2);
        g.doNow(0, STEP, RIGHT);
        due("the body goes beside it", g.x.body(0, 0), 1);
        due("and is bitten in the same tick", g.x.body(0, 1), 4);
        due("the beast stays", g.x.thing(1, 1), 2);
    }

    private static void byNumber() {
        sentence("Then the BEASTS and WOLVES, by number, that have LIFE");
        Game g = new Game(3, 3, 1);
        g.places(BEAST, 5, 7);
        g.steps(1);
        due("who comes from 5 is first in 4", g.x.thing(1, 1), 4);
        due("the other goes round", g.x.thing(2, 1), 6);
        Game h = new Game(3, 3, 1);
        h.places(BEAST, 7, 5);
        h.steps(1);
        due("who comes from 7 is first in 4", h.x.thing(1, 1), 4);
        due("the other goes round", h.x.thing(2, 1), 2);
        Game k = new Game(3, 3, 1);
        k.places(WOLF, 5);
        k.places(BEAST, 7);
        k.steps(1);
        due("the wolf is first and goes on", k.x.thing(1, 1), 3);
        due("the beast", k.x.thing(2, 1), 4);
        Game m = new Game(3, 3, 1);
        m.places(BEAST, 7);
        m.places(WOLF, 5);
        m.steps(1);
        due("the beast is first", m.x.thing(1, 1), 4);
        due("the wolf goes round, twice", m.x.thing(2, 1), 1);
    }

    private static void theDeadDoNothing() {
        sentence("Then the BEASTS and WOLVES, by number, that have LIFE");
        Game g = new Game(3, 3, 1);
        g.places(BEAST, 1);
        g.doNow(0, SHOT, RIGHT);
        due("with 1 it bites", g.x.body(0, 1), 4);
        g.steps(2);
        g.doNow(0, SHOT, RIGHT);
        due("with 0 it doesn't", g.x.body(0, 1), 2);
        g.steps(3);
        due("nor ever again", g.x.body(0, 1), 2);
    }

    private static void seesFour() {
        sentence("of the living BODIES that it SEES the nearest");
        for (int kind = BEAST; kind <= WOLF; kind++) {
            Game g = new Game(10, 3, 1);
            g.places(kind, 4);
            g.steps(1);
            due("four columns", g.x.thing(1, 1), 4 - kind);
            Game h = new Game(10, 3, 1);
            h.places(kind, 5);
            h.steps(1);
            due("five columns", h.x.thing(1, 1), 5);
            Game k = new Game(3, 10, 1);
            k.places(kind, 12);
            k.steps(1);
            due("four rows", k.x.thing(1, 1), 12 - 3 * kind);
            Game m = new Game(3, 10, 1);
            m.places(kind, 15);
            m.steps(1);
            due("five rows", m.x.thing(1, 1), 15);
        }
        Game n = new Game(6, 6, 1);
        n.places(BEAST, 28);
        n.steps(1);
        due("four and four", n.x.thing(1, 1), 27);
        int[] far = {29, 34, 35};
        for (int c : far) {
            Game o = new Game(6, 6, 1);
            o.places(BEAST, c);
            o.steps(1);
            due("five of either", o.x.thing(1, 1), c);
        }
    }

    private static void lampsAreForBodies() {
        sentence("R is 4, but 6 for a BODY that carries a LAMP");
        Game g = new Game(10, 3, 1);
        g.places(LAMP, 0);
        g.places(BEAST, 5);
        g.places(LAMP, 5);
        g.doNow(0, TAKE, 0);
        g.steps(2);
        due("a beast sees no further", g.x.thing(2, 1), 5);
        due("the body does", g.x.sees(0, 5), 1);
    }

    private static void seesThroughNothingThatBars() {
        sentence("of the living BODIES that it SEES the nearest");
        Game g = new Game(6, 3, 1);
        g.walls(1);
        g.places(BEAST, 2);
        g.steps(1);
        due("a wall", g.x.thing(1, 1), 2);
        Game h = new Game(6, 3, 1);
        h.x.door(1, 9);
        h.places(BEAST, 3);
        h.opens(0, RIGHT, 8);
        due("a shut door", h.x.thing(1, 1), 3);
        h.opens(0, RIGHT, 9);
        due("a door that is opened in this tick", h.x.thing(1, 1), 2);
        h.steps(1);
        due("through the open door", h.x.thing(1, 1), 1);
    }

    private static void theLiving() {
        sentence("of the living BODIES that it SEES the nearest");
        Game g = new Game(6, 3, 2);
        g.places(BEAST, 3);
        g.places(TRAP, 1, 1, 1);
        g.doNow(0, STEP, RIGHT);
        due("the nearest is dead", g.x.body(0, 1), 0);
        due("so it goes to the other", g.x.thing(2, 1), 4);
        Game h = new Game(6, 3, 1);
        h.places(BEAST, 3);
        h.places(TRAP, 1, 1, 1);
        h.doNow(0, STEP, RIGHT);
        due("nobody lives: it stays", h.x.thing(1, 1), 3);
    }

    private static void theNearest() {
        sentence("of the living BODIES that it SEES the nearest");
        Game g = new Game(5, 3, 2);
        g.places(BEAST, 6);
        g.steps(1);
        due("player 0", g.x.thing(2, 1), 5);
        Game h = new Game(5, 3, 2);
        h.places(BEAST, 8);
        h.steps(1);
        due("player 1", h.x.thing(2, 1), 9);
        Game k = new Game(6, 3, 2);
        k.walls(2);
        k.places(BEAST, 3);
        k.steps(1);
        due("the nearest that it sees", k.x.thing(2, 1), 4);
    }

    private static void distancesAreAdded() {
        sentence("(rows' and columns' distances added; ties: the least number)");
        Game g = new Game(6, 3, 2);
        g.places(BEAST, 3);
        g.steps(1);
        due("3 + 0 is less than 2 + 2", g.x.thing(2, 1), 2);
    }

    private static void tiesTheLeastNumber() {
        sentence("(rows' and columns' distances added; ties: the least number)");
        Game g = new Game(5, 5, 4);
        g.places(BEAST, 12);
        g.steps(1);
        due("four as near: player 0", g.x.thing(4, 1), 11);
        Game h = new Game(5, 5, 4);
        h.places(BEAST, 14);
        h.steps(1);
        due("1 and 2 as near: player 1, down", h.x.thing(4, 1), 19);
        Game k = new Game(5, 5, 4);
        k.places(BEAST, 10);
        k.steps(1);
        due("0 and 3 as near: player 0, up", k.x.thing(4, 1), 5);
    }

    private static void bitesAtOne() {
        sentence("if that distance is 1, the BODY loses 1 LIFE (a BITE, no HIT)");
        int[][] beside = {{0, 1}, {0, 3}, {1, 7}, {1, 5}};
        for (int[] b : beside) {
            Game g = new Game(3, 3, 2);
            g.places(BEAST, b[1]);
            g.steps(1);
            due("bitten", g.x.body(b[0], 1), 4);
            due("not the other", g.x.body(1 - b[0], 1), 5);
            due("it stays", g.x.thing(2, 1), b[1]);
        }
        Game h = new Game(3, 3, 1);
        h.places(BEAST, 4);
        h.steps(1);
        due("aslant is 2", h.x.body(0, 1), 5);
        due("it goes", h.x.thing(1, 1), 3);
        Game k = new Game(3, 3, 1);
        k.places(BEAST, 1);
        int[] lives = {4, 3, 2, 1, 0, 0, 0};
        for (int life : lives) {
            k.steps(1);
            due("1 each", k.x.body(0, 1), life);
        }
    }

    private static void bitesAreNoHits() {
        sentence("if that distance is 1, the BODY loses 1 LIFE (a BITE, no HIT)");
        Game g = new Game(3, 3, 2);
        g.places(BEAST, 1);
        g.steps(2);
        for (int t = 0; t < 2; t++) for (int p = 0; p < 2; p++) due("no hit", g.x.hit(t, p), 0);
    }

    /** A beast in each corner of a wide world, so far in from its BODY. */
    private static void byColumnsOrRows() {
        sentence("by columns if that distance is at least that of the rows, otherwise by rows: to the CELL next towards the BODY");
        int[][] offsets = {{4, 1}, {3, 2}, {2, 2}, {2, 3}, {1, 4}, {2, 0}, {0, 2}, {1, 1}};
        int[][] corners = {{0, 0, 1, 1}, {9, 9, -1, -1}, {9, 0, -1, 1}, {0, 9, 1, -1}};
        for (int[] o : offsets) {
            Game g = new Game(10, 10, 4);
            for (int[] c : corners) g.places(BEAST, (c[1] + c[3] * o[1]) * 10 + c[0] + c[2] * o[0]);
            g.steps(1);
            int fewerColumns = o[0] >= o[1] ? 1 : 0;
            for (int p = 0; p < 4; p++) {
                int[] c = corners[p];
                int row = c[1] + c[3] * (o[1] - 1 + fewerColumns);
                due("towards player " + p, g.x.thing(4 + p, 1), row * 10 + c[0] + c[2] * (o[0] - fewerColumns));
            }
        }
    }

    private static void otherWayRoundAWall() {
        sentence("if that doesn't BAR and nothing STANDS there; if it can't, by the other one likewise, if that distance is not 0");
        Game g = new Game(5, 5, 2);
        g.walls(18);
        g.places(BEAST, 17);
        g.steps(1);
        due("columns barred: by rows", g.x.thing(2, 1), 22);
        Game h = new Game(5, 5, 2);
        h.walls(18);
        h.places(BEAST, 13);
        h.steps(1);
        due("rows barred: by columns", h.x.thing(2, 1), 14);
        Game k = new Game(5, 5, 2);
        k.x.door(18, 0);
        k.places(BEAST, 17);
        k.steps(1);
        due("a shut door bars, too", k.x.thing(2, 1), 22);
    }

    private static void otherWayRoundOneWhoStands() {
        sentence("if that doesn't BAR and nothing STANDS there; if it can't, by the other one likewise, if that distance is not 0");
        Game g = new Game(5, 5, 1);
        g.places(BEAST, 13, 12);
        g.steps(1);
        due("columns: by rows", g.x.thing(1, 1), 8);
        Game h = new Game(5, 5, 1);
        h.places(BEAST, 16, 11);
        h.steps(1);
        due("rows: by columns", h.x.thing(1, 1), 15);
        Game k = new Game(10, 5, 1);
        k.places(BEAST, 6);
        k.places(STONE, 5);
        k.doNow(0, SHOT, RIGHT);
        k.steps(2);
        k.doNow(0, SHOT, RIGHT);
        due("the dead at 6", k.x.thing(1, 2), 0);
        k.steps(1);
        due("and stays", k.x.thing(1, 1), 6);
    }

    private static void otherWayIsBarred() {
        sentence("if it can't, by the other one likewise, if that distance is not 0");
        Game g = new Game(5, 5, 2);
        g.walls(18, 22);
        g.places(BEAST, 17);
        g.steps(1);
        due("barred by walls both", g.x.thing(2, 1), 17);
        Game h = new Game(5, 5, 1);
        h.places(BEAST, 12, 11, 7);
        h.steps(1);
        due("ways taken by two who stand", h.x.thing(1, 1), 12);
        Game k = new Game(5, 5, 2);
        k.walls(18);
        k.x.door(14, 0);
        k.places(BEAST, 13);
        k.steps(1);
        due("a wall and a door", k.x.thing(2, 1), 13);
    }

    private static void otherWayIsNone() {
        sentence("if it can't, by the other one likewise, if that distance is not 0");
        Game g = new Game(5, 5, 1);
        g.places(BEAST, 3, 2);
        g.steps(1);
        due("no rows to go", g.x.thing(1, 1), 3);
        due("the other goes", g.x.thing(2, 1), 1);
        Game h = new Game(5, 5, 1);
        h.places(BEAST, 15, 10);
        h.steps(1);
        due("no columns to go", h.x.thing(1, 1), 15);
        due("the other goes", h.x.thing(2, 1), 5);
    }

    private static void whereItGoesItEnters() {
        sentence("where it goes it ENTERS");
        Game g = new Game(6, 3, 1);
        g.places(BEAST, 4);
        g.places(POT, 3);
        g.places(TRAP, 3);
        g.places(TRAP, 3);
        g.steps(1);
        due("a trap takes 2", g.x.thing(1, 2), 0);
        due("the pot lies", g.x.thing(2, 1), 3);
        due("the trap is gone", g.x.thing(3, 1), -1);
        due("behind its life the next lies", g.x.thing(4, 1), 3);
        Game h = new Game(6, 3, 1);
        h.places(WOLF, 4);
        h.places(TRAP, 3);
        h.steps(1);
        due("a wolf has 1 left", h.x.thing(1, 2), 1);
        Game k = new Game(6, 3, 1);
        k.places(BEAST, 1);
        k.places(TRAP, 1);
        k.steps(3);
        due("who bites enters nothing", k.x.thing(1, 2), 2);
    }

    private static void wolfGoesTwice() {
        sentence("A WOLF does all this twice");
        Game g = new Game(6, 3, 1);
        g.places(WOLF, 4);
        g.steps(1);
        due("two cells", g.x.thing(1, 1), 2);
        due("no bite", g.x.body(0, 1), 5);
        g.steps(1);
        due("a cell", g.x.thing(1, 1), 1);
        due("and a bite", g.x.body(0, 1), 4);
        Game h = new Game(6, 3, 1);
        h.places(WOLF, 5);
        h.steps(1);
        due("who sees nobody stays twice", h.x.thing(1, 1), 5);
    }

    private static void wolfBitesOnce() {
        sentence("the second time only if it has LIFE then and the first was no BITE");
        Game g = new Game(3, 3, 1);
        g.places(WOLF, 1);
        int[] lives = {4, 3, 2, 1, 0, 0};
        for (int life : lives) {
            g.steps(1);
            due("one bite a tick", g.x.body(0, 1), life);
            due("it stays", g.x.thing(1, 1), 1);
        }
        Game h = new Game(3, 3, 3);
        h.places(WOLF, 1);
        h.steps(1);
        due("of two beside it", h.x.body(0, 1), 4);
        due("one alone", h.x.body(2, 1), 5);
    }

    private static void wolfNeedsLifeForTheSecond() {
        sentence("the second time only if it has LIFE then and the first was no BITE");
        Game g = new Game(6, 3, 1);
        g.places(WOLF, 4);
        g.places(TRAP, 3);
        g.steps(1);
        due("with 1 it goes on", g.x.thing(1, 1), 2);
        Game h = new Game(6, 3, 1);
        h.places(WOLF, 4);
        h.places(TRAP, 3);
        h.doNow(0, SHOT, RIGHT);
        due("shot, then in the trap: dead", h.x.thing(1, 2), 0);
        due("it doesn't go on", h.x.thing(1, 1), 3);
    }

    /** From (3, 1) it SEES player 0, from (2, 1), where it goes first, the wall at (1, 1) hides it. */
    private static void wolfChoosesAnew() {
        sentence("A WOLF does all this twice");
        Game g = new Game(7, 3, 1);
        g.walls(8);
        g.places(WOLF, 10);
        g.steps(1);
        due("the second time it sees nobody", g.x.thing(1, 1), 9);
        Game h = new Game(7, 3, 2);
        h.walls(8);
        h.places(WOLF, 10);
        h.steps(1);
        due("the second time it sees player 1 alone, and goes back", h.x.thing(2, 1), 10);
    }
}
