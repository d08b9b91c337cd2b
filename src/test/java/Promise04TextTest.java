/** Promise 4: text. */
public final class Promise04TextTest {
    private static final Due DUE = new Due("Promise 4, text");

    public static void main(String[] args) {
        DUE.test("character i of the text, from 0 on", Promise04TextTest::characters);
        DUE.test("every character that can be typed", Promise04TextTest::everyCharacter);
        DUE.test("NONE if i is less than 0", Promise04TextTest::tooSmall);
        DUE.test("NONE if i is as large as the text or larger", Promise04TextTest::tooLarge);
        DUE.test("NONE for each i of an empty text", Promise04TextTest::empty);
        DUE.test("a full text has 0 .. 99", Promise04TextTest::full);
        DUE.test("NONE for what a longer text had there", Promise04TextTest::shorterNow);
        DUE.test("nothing changes", Promise04TextTest::changesNothing);
        DUE.end();
    }

    private static void characters() {
        Game game = new Game().typed("e2 e4 ~");
        int[] want = {'e', '2', ' ', 'e', '4', ' ', '~'};
        for (int i = 0; i < want.length; i++) {
            DUE.is("text(" + i + ")", game.text(i), want[i]);
        }
    }

    private static void everyCharacter() {
        for (int code = 32; code <= 126; code++) {
            Game game = new Game();
            game.type(code);
            DUE.is("text(0)", game.text(0), code);
        }
    }

    private static void tooSmall() {
        Game game = new Game().typed("Ke2");
        for (int i : new int[] {-1, -2, -3, -8, -100, -256, Integer.MIN_VALUE, Integer.MIN_VALUE + 1}) {
            DUE.is("text(" + i + ")", game.text(i), Game.NONE);
        }
    }

    private static void tooLarge() {
        for (int size = 1; size < 10; size++) {
            Game game = new Game().typed("abcdefghi".substring(0, size));
            DUE.is("text(" + (size - 1) + ")", game.text(size - 1), 'a' + size - 1);
            for (int i : new int[] {size, size + 1, 50, 99, 100, 101, 256, Integer.MAX_VALUE - 1, Integer.MAX_VALUE}) {
                DUE.is("text(" + i + ")", game.text(i), Game.NONE);
            }
        }
    }

    private static void empty() {
        Game game = new Game();
        for (int i = -2; i <= 102; i++) {
            DUE.is("text(" + i + ")", game.text(i), Game.NONE);
        }
    }

    private static void full() {
        Game game = new Game().typed("0123456789".repeat(10));
        for (int i = 0; i < 100; i++) {
            DUE.is("text(" + i + ")", game.text(i), '0' + i % 10);
        }
        for (int i : new int[] {-1, 100, 101}) {
            DUE.is("text(" + i + ")", game.text(i), Game.NONE);
        }
    }

    private static void shorterNow() {
        Game wiped = new Game().typed("0123456789".repeat(10)).typed("ab");
        DUE.is("text(2) behind wipe and type", wiped.text(2), Game.NONE);
        Game written = new Game().typed("x".repeat(100));
        written.write();
        DUE.is("text(24) behind write", written.text(24), '1');
        DUE.is("text(25) behind write", written.text(25), Game.NONE);
        Game spelled = Game.of("8/8/8/8/8/8/4P3/8").told("e2e4").typed("x".repeat(100));
        spelled.spell(Game.move("e2e4"));
        DUE.is("text(1) behind spell", spelled.text(1), '4');
        DUE.is("text(2) behind spell", spelled.text(2), Game.NONE);
    }

    private static void changesNothing() {
        Game game = Game.sample();
        for (int i : new int[] {0, 5, 6, -1, 100, Integer.MIN_VALUE, Integer.MAX_VALUE}) {
            game.text(i);
        }
        DUE.is("what is left", game.seen(), Game.sample().seen());
    }
}
