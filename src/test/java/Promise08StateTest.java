/** Promise 8: state. */
public final class Promise08StateTest {
    private static final Due DUE = new Due("Promise 8, state");
    private static final int[] NAMED = {0, 5, 3, 40, 50};

    public static void main(String[] args) {
        DUE.test("SIDE, RIGHTS, PASSANT, CLOCK and NUMBER, all at once", Promise08StateTest::allAtOnce);
        DUE.test("SIDE 0 and 1", () -> right(0, 0, 1));
        DUE.test("RIGHTS 0 .. 15", () -> right(1, 0, 15));
        DUE.test("PASSANT 0 .. 7 or NONE", () -> right(2, Game.NONE, 7));
        DUE.test("CLOCK 0 .. 999", () -> right(3, 0, 999));
        DUE.test("NUMBER 1 .. 9999", () -> right(4, 1, 9999));
        DUE.test("the smallest ones together and the largest ones together", Promise08StateTest::ends);
        DUE.test("false if SIDE is too small", () -> refused(0, -1, -2));
        DUE.test("false if SIDE is too large", () -> refused(0, 2, 3, 256));
        DUE.test("false if RIGHTS is too small", () -> refused(1, -1, -2, -16));
        DUE.test("false if RIGHTS is too large", () -> refused(1, 16, 17, 31, 256));
        DUE.test("false if PASSANT is too small", () -> refused(2, -2, -3, -8));
        DUE.test("false if PASSANT is too large", () -> refused(2, 8, 9, 64, 256));
        DUE.test("false if CLOCK is too small", () -> refused(3, -1, -2, -999));
        DUE.test("false if CLOCK is too large", () -> refused(3, 1000, 1001, 9999));
        DUE.test("false if NUMBER is too small", () -> refused(4, 0, -1, -9999));
        DUE.test("false if NUMBER is too large", () -> refused(4, 10000, 10001, 65536));
        DUE.test("false if one is far away", Promise08StateTest::farAway);
        DUE.test("false if all are wrong", Promise08StateTest::allWrong);
        DUE.test("moves that are told stay", Promise08StateTest::movesStay);
        DUE.test("the board and the text stay", Promise08StateTest::theRestStays);
        DUE.test("it need not be RIGHT", Promise08StateTest::notRight);
        DUE.end();
    }

    private static boolean state(Game game, int[] all) {
        return game.state(all[0], all[1], all[2], all[3], all[4]);
    }

    private static int[] named(int which, int value) {
        int[] all = NAMED.clone();
        all[which] = value;
        return all;
    }

    private static String written(int[] all) {
        return all[0] + " " + all[1] + " " + all[2] + " " + all[3] + " " + all[4];
    }

    private static void holds(int[] all) {
        Game game = new Game();
        DUE.is("state of " + written(all), state(game, all), true);
        DUE.is("the state", game.state(), written(all));
    }

    private static void allAtOnce() {
        Game game = new Game();
        DUE.is("state", game.state(1, 6, 2, 34, 567), true);
        DUE.is("the state", game.state(), "1 6 2 34 567");
        DUE.is("state", game.state(0, 9, 7, 8, 9), true);
        DUE.is("the state", game.state(), "0 9 7 8 9");
        DUE.is("state", game.state(0, 0, Game.NONE, 0, 1), true);
        DUE.is("the state", game.state(), "0 0 -1 0 1");
    }

    private static void right(int which, int least, int most) {
        for (int value = least; value <= most; value++) {
            holds(named(which, value));
        }
    }

    private static void ends() {
        holds(new int[] {0, 0, Game.NONE, 0, 1});
        holds(new int[] {1, 15, 7, 999, 9999});
    }

    private static void refused(int which, int... values) {
        for (int value : values) {
            Game game = Game.sample();
            DUE.is("state of " + written(named(which, value)), state(game, named(which, value)), false);
            DUE.is("what is left", game.seen(), Game.sample().seen());
        }
    }

    private static void farAway() {
        for (int which = 0; which < 5; which++) {
            refused(which, Game.FAR);
        }
    }

    private static void allWrong() {
        Game game = Game.sample();
        DUE.is("state", game.state(2, 16, 8, 1000, 10000), false);
        DUE.is("state", game.state(-1, -1, -2, -1, 0), false);
        DUE.is("what is left", game.seen(), Game.sample().seen());
    }

    private static void movesStay() {
        Game game = Game.sample();
        DUE.is("state", game.state(0, 15, Game.NONE, 0, 1), true);
        DUE.is("the moves", game.seenMoves(), Game.sample().seenMoves());
        DUE.is("find()", game.typed("0-0").find(), Game.move("e1g1"));
    }

    private static void theRestStays() {
        Game game = Game.sample();
        DUE.is("state", game.state(0, 15, Game.NONE, 0, 1), true);
        DUE.is("the text", game.text(), "Qxa8+ ");
        DUE.is("the board", game.board(), Game.sample().board());
    }

    private static void notRight() {
        Game game = new Game();
        DUE.is("state of an empty board", game.state(1, 15, 0, 5, 1), true);
        DUE.is("the state", game.state(), "1 15 0 5 1");
    }
}
