/** Promise 1: a new object. */
public final class Promise01NewObjectTest {
    private static final Due DUE = new Due("Promise 1, a new object");

    public static void main(String[] args) {
        DUE.test("an empty board", Promise01NewObjectTest::emptyBoard);
        DUE.test("white to move", () -> DUE.is("look(1)", new Game().look(1), 0));
        DUE.test("no rights", () -> DUE.is("look(2)", new Game().look(2), 0));
        DUE.test("no PASSANT", () -> DUE.is("look(3)", new Game().look(3), Game.NONE));
        DUE.test("CLOCK 0", () -> DUE.is("look(4)", new Game().look(4), 0));
        DUE.test("NUMBER 1", () -> DUE.is("look(5)", new Game().look(5), 1));
        DUE.test("no text", Promise01NewObjectTest::noText);
        DUE.test("no moves told", Promise01NewObjectTest::noMoves);
        DUE.test("its record", Promise01NewObjectTest::itsRecord);
        DUE.test("it is new whatever another object has", Promise01NewObjectTest::sharesNothing);
        DUE.end();
    }

    private static void emptyBoard() {
        Game game = new Game();
        for (int square = 0; square < 64; square++) {
            DUE.is("at(" + square + ")", game.at(square), 0);
            DUE.is("attacked(" + square + ", 0)", game.attacked(square, 0), false);
            DUE.is("attacked(" + square + ", 1)", game.attacked(square, 1), false);
        }
    }

    private static void noText() {
        Game game = new Game();
        DUE.is("look(0)", game.look(0), 0);
        DUE.is("text(0)", game.text(0), Game.NONE);
        DUE.is("record()", game.record(), 1);
        DUE.is("find()", game.find(), -1);
    }

    private static void noMoves() {
        Game game = new Game();
        DUE.is("look(6)", game.look(6), 0);
        DUE.isThrown("spell(0)", IllegalArgumentException.class, () -> game.spell(0));
        DUE.is("find() of 'e4'", game.typed("e4").find(), -2);
    }

    private static void itsRecord() {
        Game game = new Game();
        DUE.is("write()", game.write(), 25);
        DUE.is("the text", game.text(), "8/8/8/8/8/8/8/8 w - - 0 1");
    }

    private static void sharesNothing() {
        Game early = new Game();
        String seen = new Game().seen();
        Game.sample();
        DUE.is("one made before", early.seen(), seen);
        DUE.is("one made behind", new Game().seen(), seen);
    }
}
