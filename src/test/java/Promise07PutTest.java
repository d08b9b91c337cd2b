/** Promise 7: put. */
public final class Promise07PutTest {
    private static final Due DUE = new Due("Promise 7, put");

    public static void main(String[] args) {
        DUE.test("each square gets each man: true", Promise07PutTest::eachManOnEachSquare);
        DUE.test("0 none: the square is empty then", Promise07PutTest::none);
        DUE.test("a man takes another one's place", Promise07PutTest::another);
        DUE.test("that square alone", Promise07PutTest::thatSquareAlone);
        DUE.test("no moves are told", Promise07PutTest::noMoves);
        DUE.test("no moves are told, even if the board stays as it is", Promise07PutTest::noMovesOfTheSameBoard);
        DUE.test("the text and the state stay", Promise07PutTest::theRestStays);
        DUE.test("as many men as there are squares, of one kind too", Promise07PutTest::fullBoard);
        DUE.test("false if the square is too small", () -> refused(new int[] {-1, -2, -8, -64}, new int[] {0, 1, 12}));
        DUE.test("false if the square is too large", () -> refused(new int[] {64, 65, 72, 128, 256}, new int[] {0, 1, 12}));
        DUE.test("false if the man is too small", () -> refused(new int[] {0, 4, 63}, new int[] {-1, -2, -12}));
        DUE.test("false if the man is too large", () -> refused(new int[] {0, 4, 63}, new int[] {13, 14, 25, 256}));
        DUE.test("false if the square is far away", () -> refused(Game.FAR, new int[] {0, 1, 12}));
        DUE.test("false if the man is far away", () -> refused(new int[] {0, 4, 63}, Game.FAR));
        DUE.test("false if there is neither such a square nor such a man", () -> refused(new int[] {-1, 64}, new int[] {-1, 13}));
        DUE.end();
    }

    private static void eachManOnEachSquare() {
        for (int square = 0; square < 64; square++) {
            for (int man = 0; man <= 12; man++) {
                Game game = new Game();
                DUE.is("put(" + square + ", " + man + ")", game.put(square, man), true);
                DUE.is("at(" + square + ")", game.at(square), man);
            }
        }
    }

    private static void none() {
        for (int man = 0; man <= 12; man++) {
            Game game = new Game();
            game.put(63, man);
            DUE.is("put(63, 0)", game.put(63, 0), true);
            DUE.is("at(63)", game.at(63), 0);
        }
    }

    private static void another() {
        Game game = Game.of("8/8/8/8/8/8/8/4K3");
        DUE.is("put(4, 12)", game.put(4, 12), true);
        DUE.is("at(4)", game.at(4), 12);
    }

    private static void thatSquareAlone() {
        for (int square : new int[] {0, 7, 8, 27, 55, 56, 63}) {
            Game game = new Game();
            game.put(square, 5);
            for (int other = 0; other < 64; other++) {
                DUE.is("at(" + other + ")", game.at(other), other == square ? 5 : 0);
            }
        }
    }

    private static void noMoves() {
        Game game = Game.of("4k3/8/8/8/8/8/8/4K3").told("e1e2 e8e7:1").typed("Ke2");
        DUE.is("look(6) before", game.look(6), 2);
        DUE.is("put(0, 4)", game.put(0, 4), true);
        DUE.is("look(6)", game.look(6), 0);
        DUE.is("find()", game.find(), -2);
        DUE.isThrown("spell", IllegalArgumentException.class, () -> game.spell(Game.move("e1e2")));
        DUE.is("tell", game.tell(Game.move("e1e2"), 2), true);
        DUE.is("look(6)", game.look(6), 1);
    }

    private static void noMovesOfTheSameBoard() {
        Game same = Game.of("4k3/8/8/8/8/8/8/4K3").told("e1e2");
        DUE.is("put of what is there", same.put(4, 6), true);
        DUE.is("look(6)", same.look(6), 0);
        Game none = Game.of("4k3/8/8/8/8/8/8/4K3").told("e1e2");
        DUE.is("put of nothing where nothing is", none.put(0, 0), true);
        DUE.is("look(6)", none.look(6), 0);
    }

    private static void theRestStays() {
        Game game = Game.sample();
        game.put(63, 0);
        DUE.is("the state", game.state(), "1 9 5 66 777");
        DUE.is("the text", game.text(), "Qxa8+ ");
    }

    private static void fullBoard() {
        Game game = new Game();
        for (int square = 0; square < 64; square++) {
            DUE.is("put(" + square + ", 6)", game.put(square, 6), true);
        }
        for (int square = 0; square < 64; square++) {
            DUE.is("at(" + square + ")", game.at(square), 6);
        }
    }

    private static void refused(int[] squares, int[] men) {
        for (int square : squares) {
            for (int man : men) {
                Game game = Game.sample();
                DUE.is("put(" + square + ", " + man + ")", game.put(square, man), false);
                DUE.is("what is left", game.seen(), Game.sample().seen());
            }
        }
    }
}
