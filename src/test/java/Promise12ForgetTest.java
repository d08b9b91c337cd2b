/** Promise 12: forget. */
public final class Promise12ForgetTest {
    private static final Due DUE = new Due("Promise 12, forget");

    public static void main(String[] args) {
        DUE.test("no moves are told", Promise12ForgetTest::noMoves);
        DUE.test("of none, too", Promise12ForgetTest::ofNone);
        DUE.test("of 330, and there is room again", Promise12ForgetTest::ofAll);
        DUE.test("what was told is no rival any more", Promise12ForgetTest::noRivals);
        DUE.test("the text and the position stay", Promise12ForgetTest::theRestStays);
        DUE.end();
    }

    private static void noMoves() {
        Game game = Game.of("4k3/8/8/8/8/8/8/4K3").told("e1e2:1 e8e7").typed("Ke2+");
        game.forget();
        DUE.is("look(6)", game.look(6), 0);
        DUE.is("find()", game.find(), -2);
        DUE.isThrown("spell", IllegalArgumentException.class, () -> game.spell(Game.move("e1e2")));
        DUE.isThrown("spell", IllegalArgumentException.class, () -> game.spell(Game.move("e8e7")));
        DUE.is("tell of the same", game.tell(Game.move("e1e2"), 2), true);
        DUE.is("its spelling", game.spelling(Game.move("e1e2")), "Ke2#");
    }

    private static void ofNone() {
        Game game = Game.of("4k3/8/8/8/8/8/8/4K3").typed("Ke2");
        game.forget();
        game.forget();
        DUE.is("look(6)", game.look(6), 0);
        DUE.is("find()", game.find(), -2);
        DUE.is("tell", game.tell(Game.move("e1e2"), 0), true);
        DUE.is("find()", game.find(), Game.move("e1e2"));
    }

    private static void ofAll() {
        Game game = Game.of("8/8/8/8/8/8/8/8");
        for (int file = 0; file < 8; file++) {
            game.put(file, 2);
        }
        for (int i = 0; i < 330; i++) {
            game.tell(i % 8 + 64 * (8 + i / 8), 0);
        }
        DUE.is("look(6) before", game.look(6), 330);
        game.forget();
        DUE.is("look(6)", game.look(6), 0);
        for (int i = 0; i < 150; i++) {
            DUE.is("tell again", game.tell(i % 8 + 64 * (8 + i / 8), 1), true);
        }
        DUE.is("look(6)", game.look(6), 150);
    }

    private static void noRivals() {
        Game game = Game.of("8/8/8/8/8/8/8/1N3N2").told("b1d2 f1d2");
        DUE.is("the spelling", game.spelling(Game.move("b1d2")), "Nbd2");
        game.forget();
        game.told("b1d2");
        DUE.is("the spelling", game.spelling(Game.move("b1d2")), "Nd2");
    }

    private static void theRestStays() {
        Game game = Game.sample();
        game.forget();
        DUE.is("the text", game.text(), "Qxa8+ ");
        DUE.is("the state", game.state(), "1 9 5 66 777");
        DUE.is("the board", game.board(), Game.sample().board());
    }
}
