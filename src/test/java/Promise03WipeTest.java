/** Promise 3: wipe. */
public final class Promise03WipeTest {
    private static final Due DUE = new Due("Promise 3, wipe");

    public static void main(String[] args) {
        DUE.test("the text becomes empty", () -> wiped("Ke2"));
        DUE.test("one character becomes none", () -> wiped("K"));
        DUE.test("a full text becomes empty", () -> wiped("x".repeat(100)));
        DUE.test("an empty text stays empty", Promise03WipeTest::emptyAlready);
        DUE.test("there is room for 100 again", Promise03WipeTest::roomAgain);
        DUE.test("nothing of the former text comes back", Promise03WipeTest::nothingComesBack);
        DUE.test("the position and the moves stay", Promise03WipeTest::theRestStays);
        DUE.end();
    }

    private static void wiped(String text) {
        Game game = new Game().typed(text);
        game.wipe();
        DUE.is("look(0)", game.look(0), 0);
        for (int i = 0; i < 101; i++) {
            DUE.is("text(" + i + ")", game.text(i), Game.NONE);
        }
        DUE.is("record()", game.record(), 1);
        DUE.is("find()", game.find(), -1);
    }

    private static void emptyAlready() {
        Game game = new Game();
        game.wipe();
        game.wipe();
        DUE.is("look(0)", game.look(0), 0);
        DUE.is("text(0)", game.text(0), Game.NONE);
    }

    private static void roomAgain() {
        Game game = new Game().typed("x".repeat(100));
        game.wipe();
        for (int i = 0; i < 12; i++) {
            DUE.is("type of eight", game.type(Game.part("abcdefgh")), true);
        }
        DUE.is("type of four", game.type(Game.part("ijkl")), true);
        DUE.is("type of one more", game.type('m'), false);
        DUE.is("the text", game.text(), "abcdefgh".repeat(12) + "ijkl");
    }

    private static void nothingComesBack() {
        Game game = new Game().typed("former text");
        game.wipe();
        game.type('K');
        DUE.is("the text", game.text(), "K");
        DUE.is("look(0)", game.look(0), 1);
    }

    private static void theRestStays() {
        Game game = Game.sample();
        game.wipe();
        DUE.is("what else is there", game.seenBesidesText(), Game.sample().seenBesidesText());
    }
}
