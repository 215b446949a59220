/** Promises 11 to 14 (step, body, thing, open) and the ticks of part II. */
public final class TickTest {
    public static void main(String[] args) {
        stepsAlone();
        wrongNumbers();
        walking();
        whoGoesFirst();
        shotLine();
        shotRest();
        opening();
        takingAndPutting();
        throwing();
        throwingAtTheEdge();
        throwingAtAPlayer();
        potsAndTraps();
        potOfTheWeak();
        deathByTrap();
        deathByShot();
        beastWalks();
        beastBites();
        beastChooses();
        beastGoesRound();
        beastEnters();
        wolf();
        wolfAndTrap();
        crownAndPlate();
        restOfTheDead();
        Check.end("TickTest");
    }

    private static void stepsAlone() {
        Judge x = new Judge();
        for (int t = 1; t <= 5; t++) Check.due("step", x.step(), t);
        Check.due("body(0, 0)", x.body(0, 0), 0);
        Check.due("body(1, 0)", x.body(1, 0), 48);
        Check.due("face", x.body(0, 2), 1);
    }

    private static void wrongNumbers() {
        Judge x = new Judge();
        x.door(3, 3);
        int[] far = {-1, 7, Integer.MAX_VALUE, Integer.MIN_VALUE};
        for (int what : far) {
            Check.due("body what " + what, x.body(0, what), RunJudge.NONE);
            Check.due("thing what " + what, x.thing(0, what), RunJudge.NONE);
            Check.due("body " + what, x.body(what, 0), RunJudge.NONE);
            Check.due("thing " + what, x.thing(what, 0), RunJudge.NONE);
            Check.due("open " + what, x.open(what), RunJudge.NONE);
        }
        Check.due("body 2", x.body(2, 0), RunJudge.NONE);
        Check.due("thing 2", x.thing(2, 0), RunJudge.NONE);
        Check.due("thing what 4", x.thing(0, 4), RunJudge.NONE);
        Check.due("open 1", x.open(1), RunJudge.NONE);
        Check.due("open 0", x.open(0), 0);
        Check.due("thing(1, 0)", x.thing(1, 0), 0);
        Check.due("thing(1, 1)", x.thing(1, 1), 48);
        Check.due("thing(1, 2)", x.thing(1, 2), 5);
        Check.due("thing(1, 3)", x.thing(1, 3), -1);
    }

    private static void walking() {
        Check.Game g = new Check.Game(4, 3, 1);
        g.x.wall(5);
        g.x.door(2, 7);
        g.x.place(6, 4);
        g.x.place(1, 8);
        g.doNow(0, Check.STEP, Check.UP);
        Check.due("at the upper edge", g.x.body(0, 0), 0);
        Check.due("face", g.x.body(0, 2), 0);
        Check.Game h = new Check.Game(4, 3, 1);
        h.x.wall(5);
        h.x.door(2, 7);
        h.doNow(0, Check.STEP, Check.LEFT);
        Check.due("at the left edge", h.x.body(0, 0), 0);
        Check.due("face left", h.x.body(0, 2), 3);
        h.doNow(0, Check.STEP, Check.RIGHT);
        Check.due("right", h.x.body(0, 0), 1);
        h.doNow(0, Check.STEP, Check.RIGHT);
        Check.due("a shut door bars", h.x.body(0, 0), 1);
        h.doNow(0, Check.STEP, Check.DOWN);
        Check.due("a wall bars", h.x.body(0, 0), 1);
        Check.due("face down", h.x.body(0, 2), 2);
        h.doNow(0, Check.STEP, Check.LEFT);
        h.doNow(0, Check.STEP, Check.DOWN);
        h.doNow(0, Check.STEP, Check.DOWN);
        Check.due("down twice", h.x.body(0, 0), 8);
        h.doNow(0, Check.STEP, Check.DOWN);
        Check.due("at the lower edge", h.x.body(0, 0), 8);
        for (int i = 0; i < 4; i++) h.doNow(0, Check.STEP, Check.RIGHT);
        Check.due("no way round the right edge", h.x.body(0, 0), 11);
        h.doNow(0, Check.STEP, Check.UP);
        Check.due("up", h.x.body(0, 0), 7);
    }

    private static void whoGoesFirst() {
        Check.Game g = new Check.Game(3, 3, 2);
        g.doNow(1, Check.STEP, Check.UP);
        g.doNow(1, Check.STEP, Check.UP);
        g.send(0, Check.STEP, Check.RIGHT, 0, 2);
        g.send(1, Check.STEP, Check.LEFT, 0, 2);
        g.steps(1);
        Check.due("tick 2: player 0 is first", g.x.body(0, 0), 1);
        Check.due("player 1 stays", g.x.body(1, 0), 2);
        Check.due("player 1 turns", g.x.body(1, 2), 3);
        g.doNow(0, Check.STEP, Check.LEFT);
        g.steps(1);
        g.send(0, Check.STEP, Check.RIGHT, 0, 5);
        g.send(1, Check.STEP, Check.LEFT, 0, 5);
        g.steps(1);
        Check.due("tick 5: player 1 is first", g.x.body(1, 0), 1);
        Check.due("player 0 stays", g.x.body(0, 0), 0);
        Check.Game h = new Check.Game(3, 3, 3);
        h.doNow(1, Check.STEP, Check.LEFT);
        h.send(0, Check.STEP, Check.DOWN, 0, 1);
        h.steps(1);
        h.send(0, Check.STEP, Check.RIGHT, 0, 2);
        h.send(1, Check.STEP, Check.UP, 0, 2);
        h.send(2, Check.STEP, Check.DOWN, 0, 2);
        h.steps(1);
        Check.due("tick 2 of three: 2, then 0, then 1", h.x.body(2, 0), 5);
        Check.due("player 0 is ahead of player 1", h.x.body(0, 0), 4);
        Check.due("player 1 stays", h.x.body(1, 0), 7);
    }

    private static void shotLine() {
        Check.Game g = new Check.Game(10, 3, 1);
        g.x.place(1, 8);
        g.doNow(0, Check.SHOT, Check.RIGHT);
        Check.due("the eighth cell is too far", g.x.hit(0, 0), 0);
        Check.due("life", g.x.thing(1, 2), 2);
        Check.Game h = new Check.Game(10, 3, 1);
        h.x.place(1, 7);
        h.x.place(1, 6);
        h.x.place(3, 5);
        h.doNow(0, Check.SHOT, Check.RIGHT);
        Check.due("the nearer one is hit", h.x.hit(0, 0), 3);
        Check.due("its life", h.x.thing(2, 2), 1);
        Check.due("the other's life", h.x.thing(1, 2), 2);
        h.steps(2);
        h.doNow(0, Check.SHOT, Check.RIGHT);
        Check.due("it dies", h.x.thing(2, 2), 0);
        Check.due("its cell stays", h.x.thing(2, 1), 6);
        h.steps(2);
        h.doNow(0, Check.SHOT, Check.RIGHT);
        Check.due("the seventh cell, over the dead", h.x.hit(6, 0), 2);
        Check.Game k = new Check.Game(10, 3, 1);
        k.x.place(1, 6);
        k.x.wall(5);
        k.doNow(0, Check.SHOT, Check.RIGHT);
        Check.due("a wall bars", k.x.hit(0, 0), 0);
        Check.due("but there is rest", k.x.body(0, 3), 2);
        Check.Game m = new Check.Game(10, 3, 1);
        m.x.place(1, 6);
        m.x.door(5, 2);
        m.doNow(0, Check.SHOT, Check.RIGHT);
        Check.due("a shut door bars", m.x.hit(0, 0), 0);
        Check.due("other lines are other cells", m.x.hit(0, 0), 0);
        Check.Game n = new Check.Game(3, 9, 1);
        n.x.place(2, 21);
        n.doNow(0, Check.SHOT, Check.DOWN);
        Check.due("down, seven cells", n.x.hit(0, 0), 2);
        Check.due("a wolf's life", n.x.thing(1, 2), 2);
        Check.due("face", n.x.body(0, 2), 2);
    }

    private static void shotRest() {
        Check.Game g = new Check.Game(5, 5, 1);
        g.doNow(0, Check.SHOT, Check.DOWN);
        Check.due("rest", g.x.body(0, 3), 2);
        Check.due("sent for the tick behind next, so not asked for", g.send(0, Check.SHOT, Check.LEFT, 0, 2), 0);
        g.steps(1);
        Check.due("rest falls", g.x.body(0, 3), 1);
        g.steps(1);
        Check.due("nothing at all: the face", g.x.body(0, 2), 2);
        Check.due("nothing at all: the rest", g.x.body(0, 3), 0);
        g.doNow(0, Check.SHOT, Check.LEFT);
        Check.due("now it shoots: the face", g.x.body(0, 2), 3);
        Check.due("now it shoots: the rest", g.x.body(0, 3), 2);
    }

    private static void opening() {
        Check.Game g = new Check.Game(4, 3, 1);
        g.x.door(1, 9);
        g.x.door(4, 9);
        Check.due("told a door", g.x.told(0, 1), 2);
        g.send(0, Check.OPEN, Check.RIGHT, 8, 0);
        g.steps(1);
        Check.due("a wrong word", g.x.open(0), 0);
        g.send(0, Check.OPEN, Check.DOWN, 9, 1);
        g.steps(1);
        Check.due("the one next in d", g.x.open(1), 1);
        Check.due("not the other", g.x.open(0), 0);
        Check.due("face", g.x.body(0, 2), 2);
        g.send(0, Check.OPEN, Check.RIGHT, 9, 2);
        g.steps(1);
        Check.due("open", g.x.open(0), 1);
        Check.due("told an open door", g.x.told(0, 1), 4);
        g.send(0, Check.OPEN, Check.RIGHT, 9, 3);
        g.steps(1);
        Check.due("open from then on", g.x.open(0), 1);
        g.doNow(0, Check.STEP, Check.RIGHT);
        Check.due("through it", g.x.body(0, 0), 1);
    }

    private static void takingAndPutting() {
        Check.Game g = new Check.Game(4, 3, 1);
        g.x.place(3, 0);
        g.x.place(4, 0);
        g.x.place(7, 0);
        g.x.place(5, 0);
        g.x.place(6, 1);
        g.doNow(0, Check.TAKE, 0);
        Check.due("the least that can be taken", g.x.body(0, 4), 3);
        Check.due("its cell", g.x.thing(3, 1), -2);
        Check.due("its carrier", g.x.thing(3, 3), 0);
        Check.due("the stone lies", g.x.thing(4, 1), 0);
        Check.due("a face is not turned by it", g.x.body(0, 2), 1);
        g.doNow(0, Check.STEP, Check.RIGHT);
        Check.due("taken along", g.x.thing(3, 1), -2);
        g.doNow(0, Check.PUT, 0);
        Check.due("it lies", g.x.thing(3, 1), 1);
        Check.due("nobody carries it", g.x.thing(3, 3), -1);
        Check.due("nothing carried", g.x.body(0, 4), -1);
        Check.due("a put of nothing, sent early", g.send(0, Check.PUT, 0, 0, 4), 0);
        g.steps(2);
        Check.due("does nothing", g.x.body(0, 4), -1);
        g.doNow(0, Check.STEP, Check.DOWN);
        g.doNow(0, Check.TAKE, 0);
        Check.due("nothing lies there", g.x.body(0, 4), -1);
        g.doNow(0, Check.STEP, Check.UP);
        g.doNow(0, Check.TAKE, 0);
        Check.due("the crown, ahead of the lamp", g.x.body(0, 4), 3);
        Check.due("a second take, sent early", g.send(0, Check.TAKE, 0, 0, 10), 0);
        g.steps(2);
        Check.due("only one is carried", g.x.thing(5, 3), -1);
    }

    private static void throwing() {
        Check.Game g = new Check.Game(10, 3, 1);
        g.x.place(5, 0);
        g.x.place(1, 6);
        g.doNow(0, Check.TAKE, 0);
        g.doNow(0, Check.THROW, Check.RIGHT);
        Check.due("four cells", g.x.thing(1, 1), 4);
        Check.due("it lies", g.x.thing(1, 3), -1);
        Check.due("nothing carried", g.x.body(0, 4), -1);
        Check.due("no hit", g.x.hit(1, 0), 0);
        Check.due("a throw makes no rest", g.x.body(0, 3), 0);
        Check.Game h = new Check.Game(10, 3, 1);
        h.x.place(5, 0);
        h.x.place(1, 6);
        h.x.wall(3);
        h.doNow(0, Check.TAKE, 0);
        h.doNow(0, Check.THROW, Check.RIGHT);
        Check.due("up to the wall", h.x.thing(1, 1), 2);
        Check.Game k = new Check.Game(10, 3, 2);
        k.x.place(5, 0);
        k.x.place(1, 13);
        k.doNow(0, Check.TAKE, 0);
        Check.due("the beast comes", k.x.thing(3, 1), 12);
        k.doNow(0, Check.STEP, Check.DOWN);
        k.doNow(0, Check.THROW, Check.RIGHT);
        Check.due("a hit", k.x.hit(2, 0), 4);
        Check.due("the stone lies where the beast stands", k.x.thing(2, 1), 11);
        Check.due("its life", k.x.thing(3, 2), 1);
        Check.due("a throw of nothing, sent early", k.send(0, Check.THROW, Check.UP, 0, 4), 0);
        k.steps(2);
        Check.due("nothing at all", k.x.body(0, 2), 1);
    }

    private static void throwingAtTheEdge() {
        Check.Game g = new Check.Game(3, 3, 1);
        g.x.place(5, 0);
        g.doNow(0, Check.TAKE, 0);
        g.doNow(0, Check.THROW, Check.UP);
        Check.due("its own cell", g.x.thing(1, 1), 0);
        Check.due("face", g.x.body(0, 2), 0);
        g.doNow(0, Check.TAKE, 0);
        g.doNow(0, Check.THROW, Check.DOWN);
        Check.due("up to the edge", g.x.thing(1, 1), 6);
    }

    private static void throwingAtAPlayer() {
        Check.Game g = new Check.Game(3, 3, 2);
        g.x.place(5, 8);
        g.send(0, Check.STEP, Check.RIGHT, 0, 0);
        g.doNow(1, Check.TAKE, 0);
        g.doNow(1, Check.STEP, Check.UP);
        g.doNow(1, Check.STEP, Check.UP);
        g.doNow(1, Check.THROW, Check.LEFT);
        Check.due("thing 0 is hit", g.x.hit(3, 1), 1);
        Check.due("life", g.x.body(0, 1), 4);
        Check.due("the stone goes no further", g.x.thing(2, 1), 1);
    }

    private static void potOfTheWeak() {
        Check.Game g = new Check.Game(5, 3, 1);
        g.x.place(4, 1);
        g.x.place(4, 2);
        g.x.place(3, 3);
        for (int i = 0; i < 2; i++) g.doNow(0, Check.STEP, Check.RIGHT);
        Check.due("1 is left", g.x.body(0, 1), 1);
        Check.due("who has 1 sees", g.x.sees(0, 0), 1);
        Check.due("and is written to", g.x.letter(0, 2) == 0 ? 1 : 0, 0);
        g.doNow(0, Check.STEP, Check.RIGHT);
        Check.due("a pot gives 2", g.x.body(0, 1), 3);
    }

    private static void potsAndTraps() {
        Check.Game g = new Check.Game(7, 3, 1);
        g.x.place(4, 1);
        g.x.place(3, 1);
        g.x.place(3, 2);
        g.x.place(4, 2);
        g.x.place(3, 3);
        g.x.place(3, 3);
        g.doNow(0, Check.STEP, Check.RIGHT);
        Check.due("a trap, then a pot", g.x.body(0, 1), 5);
        Check.due("the trap is gone", g.x.thing(1, 1), -1);
        Check.due("the pot is gone", g.x.thing(2, 1), -1);
        g.doNow(0, Check.STEP, Check.RIGHT);
        Check.due("a pot, which gives nothing, then a trap", g.x.body(0, 1), 3);
        Check.due("the pot is gone all the same", g.x.thing(3, 1), -1);
        g.doNow(0, Check.STEP, Check.RIGHT);
        Check.due("two pots", g.x.body(0, 1), 5);
        Check.due("both are gone", g.x.thing(6, 1), -1);
        Check.due("gone ones are not told of", g.x.told(0, 3), 8);
        g.doNow(0, Check.STEP, Check.LEFT);
        Check.due("a gone trap does nothing", g.x.body(0, 1), 5);
        Check.Game h = new Check.Game(4, 3, 1);
        h.x.place(4, 0);
        h.steps(1);
        Check.due("only who enters", h.x.body(0, 1), 5);
    }

    private static void deathByTrap() {
        Check.Game g = new Check.Game(7, 3, 1);
        g.x.place(5, 0);
        for (int i = 0; i < 4; i++) g.x.place(4, 1);
        g.x.place(3, 1);
        g.doNow(0, Check.TAKE, 0);
        g.doNow(0, Check.STEP, Check.RIGHT);
        Check.due("dead", g.x.body(0, 1), 0);
        Check.due("its cell", g.x.body(0, 0), 1);
        Check.due("the third trap is gone", g.x.thing(4, 1), -1);
        Check.due("the fourth lies", g.x.thing(5, 1), 1);
        Check.due("the pot lies", g.x.thing(6, 1), 1);
        Check.due("what it carried lies in the new cell", g.x.thing(1, 1), 1);
        Check.due("nothing carried", g.x.body(0, 4), -1);
        Check.due("the dead see nothing", g.x.sees(0, 1), 0);
    }

    private static void deathByShot() {
        Check.Game g = new Check.Game(3, 3, 2);
        g.x.place(7, 0);
        g.send(0, Check.TAKE, 0, 0, 0);
        g.doNow(1, Check.STEP, Check.UP);
        g.doNow(1, Check.STEP, Check.UP);
        for (int i = 0; i < 5; i++) {
            g.doNow(1, Check.SHOT, Check.LEFT);
            g.steps(2);
        }
        Check.due("dead", g.x.body(0, 1), 0);
        Check.due("the crown lies", g.x.thing(2, 1), 0);
        Check.due("points up to then: ticks 0 .. 13", g.x.body(0, 5), 14);
        g.doNow(1, Check.SHOT, Check.LEFT);
        Check.due("the dead are not hit", g.x.hit(17, 1), 0);
        g.doNow(1, Check.STEP, Check.LEFT);
        g.doNow(1, Check.STEP, Check.LEFT);
        Check.due("over the dead", g.x.body(1, 0), 0);
    }

    private static void beastWalks() {
        Check.Game g = new Check.Game(10, 5, 1);
        g.x.place(1, 4 + 30);
        g.steps(1);
        Check.due("by columns: 4 to 3", g.x.thing(1, 1), 33);
        g.steps(1);
        Check.due("3 and 3: by columns", g.x.thing(1, 1), 32);
        g.steps(1);
        Check.due("2 and 3: by rows", g.x.thing(1, 1), 22);
        g.steps(3);
        Check.due("on to 21, 11 and, by columns, beside it", g.x.thing(1, 1), 10);
        Check.due("not bitten yet", g.x.body(0, 1), 5);
        Check.Game h = new Check.Game(10, 3, 1);
        h.x.place(1, 5);
        h.steps(2);
        Check.due("five away: it sees nobody", h.x.thing(1, 1), 5);
    }

    private static void beastBites() {
        Check.Game g = new Check.Game(5, 5, 1);
        g.x.place(1, 1);
        g.steps(2);
        Check.due("two bites", g.x.body(0, 1), 3);
        Check.due("it stays", g.x.thing(1, 1), 1);
        Check.due("no hit", g.x.hit(0, 0), 0);
        g.steps(4);
        Check.due("life is never below 0", g.x.body(0, 1), 0);
        Check.Game h = new Check.Game(5, 5, 1);
        h.x.place(1, 6);
        h.steps(1);
        Check.due("aslant is not beside", h.x.body(0, 1), 5);
        Check.due("it comes beside, by columns", h.x.thing(1, 1), 5);
    }

    private static void beastChooses() {
        Check.Game g = new Check.Game(5, 3, 2);
        g.x.place(1, 7);
        g.steps(1);
        Check.due("of two as near the first", g.x.thing(2, 1), 6);
        Check.Game h = new Check.Game(5, 3, 2);
        h.x.place(1, 8);
        h.steps(1);
        Check.due("the nearer", h.x.thing(2, 1), 9);
        Check.Game k = new Check.Game(5, 3, 2);
        k.x.place(1, 6);
        k.x.wall(1);
        k.x.wall(5);
        k.steps(1);
        Check.due("both ways barred", k.x.thing(2, 1), 6);
        Check.Game m = new Check.Game(5, 4, 2);
        m.x.place(1, 2);
        m.x.wall(1);
        m.steps(1);
        Check.due("it does not see through the wall: to the other, by rows", m.x.thing(2, 1), 7);
    }

    private static void beastGoesRound() {
        Check.Game g = new Check.Game(5, 5, 1);
        g.x.place(1, 13);
        g.x.place(4, 12);
        g.x.place(1, 12);
        g.steps(1);
        Check.due("columns barred by one who stands: by rows", g.x.thing(1, 1), 8);
        Check.due("the other goes by columns", g.x.thing(3, 1), 11);
        Check.Game h = new Check.Game(5, 5, 1);
        h.x.place(1, 3);
        h.x.place(1, 2);
        h.steps(1);
        Check.due("columns barred, rows' distance 0: it stays", h.x.thing(1, 1), 3);
        Check.due("the other goes", h.x.thing(2, 1), 1);
        Check.Game k = new Check.Game(5, 5, 1);
        k.x.place(1, 16);
        k.x.wall(11);
        k.x.door(10, 0);
        k.steps(1);
        Check.due("it sees nobody through the wall", k.x.thing(1, 1), 16);
    }

    private static void beastEnters() {
        Check.Game g = new Check.Game(5, 3, 1);
        g.x.place(1, 4);
        g.x.place(3, 3);
        g.x.place(4, 2);
        g.steps(1);
        Check.due("a pot is not for beasts", g.x.thing(2, 1), 3);
        Check.due("its life", g.x.thing(1, 2), 2);
        g.steps(1);
        Check.due("a trap takes 2", g.x.thing(1, 2), 0);
        Check.due("the trap is gone", g.x.thing(3, 1), -1);
        g.steps(2);
        Check.due("the dead stay", g.x.thing(1, 1), 2);
    }

    private static void wolf() {
        Check.Game g = new Check.Game(6, 3, 1);
        g.x.place(2, 4);
        g.steps(1);
        Check.due("twice", g.x.thing(1, 1), 2);
        g.steps(1);
        Check.due("once, then a bite", g.x.thing(1, 1), 1);
        Check.due("bitten", g.x.body(0, 1), 4);
        g.steps(1);
        Check.due("behind a bite no second one", g.x.body(0, 1), 3);
    }

    private static void wolfAndTrap() {
        Check.Game g = new Check.Game(6, 3, 1);
        g.x.place(2, 4);
        g.x.place(4, 3);
        g.x.place(4, 2);
        g.x.place(4, 1);
        g.steps(1);
        Check.due("3 - 2, and on: 1 - 2 is 0", g.x.thing(1, 2), 0);
        Check.due("in the second trap", g.x.thing(1, 1), 2);
        Check.due("the third lies", g.x.thing(4, 1), 1);
        Check.Game h = new Check.Game(6, 3, 1);
        h.x.place(2, 4);
        h.x.place(4, 3);
        h.x.place(4, 3);
        h.steps(1);
        Check.due("without life no second time", h.x.thing(1, 1), 3);
    }

    private static void crownAndPlate() {
        Check.Game g = new Check.Game(5, 3, 2);
        g.x.door(7, 1);
        g.x.door(8, 1);
        g.x.plate(1, 0);
        g.x.plate(2, 1);
        g.x.plate(13, 1);
        g.x.place(7, 0);
        g.x.place(7, 14);
        g.send(1, Check.TAKE, 0, 0, 0);
        g.doNow(0, Check.TAKE, 0);
        Check.due("a point", g.x.body(0, 5), 1);
        g.doNow(0, Check.STEP, Check.RIGHT);
        Check.due("known", g.x.body(0, 6), 1);
        g.doNow(0, Check.STEP, Check.RIGHT);
        Check.due("both known", g.x.body(0, 6), 3);
        g.doNow(0, Check.STEP, Check.RIGHT);
        Check.due("from then on", g.x.body(0, 6), 3);
        g.doNow(0, Check.PUT, 0);
        Check.due("points while carried", g.x.body(0, 5), 4);
        Check.due("each crown has its own", g.x.body(1, 5), 5);
        g.doNow(1, Check.STEP, Check.LEFT);
        Check.due("the other's known", g.x.body(1, 6), 2);
    }

    private static void restOfTheDead() {
        Check.Game g = new Check.Game(3, 3, 1);
        for (int i = 0; i < 3; i++) g.x.place(4, 1);
        g.x.door(3, 0);
        g.x.plate(1, 0);
        g.doNow(0, Check.SHOT, Check.RIGHT);
        g.doNow(0, Check.STEP, Check.RIGHT);
        Check.due("dead", g.x.body(0, 1), 0);
        Check.due("each rest falls", g.x.body(0, 3), 1);
        Check.due("the dead learn nothing", g.x.body(0, 6), 0);
        g.steps(1);
        Check.due("the dead's, too", g.x.body(0, 3), 0);
    }
}
