/** Promise 15: look. */
public final class Promise15LookTest {
    private static final Due DUE = new Due("Promise 15, look");

    public static void main(String[] args) {
        DUE.test("0: characters in the text, 0 .. 100", Promise15LookTest::characters);
        DUE.test("1: SIDE", () -> looks(1, 1, 0));
        DUE.test("2: RIGHTS", () -> looks(2, 0, 1, 15));
        DUE.test("3: PASSANT, NONE if there is none", () -> looks(3, 0, 7, Game.NONE));
        DUE.test("4: CLOCK", () -> looks(4, 0, 1, 999));
        DUE.test("5: NUMBER", () -> looks(5, 1, 2, 9999));
        DUE.test("6: moves told, 0 .. 330", Promise15LookTest::moves);
        DUE.test("each one is its own", Promise15LookTest::eachItsOwn);
        DUE.test("NONE for a which that is too small", () -> none(-1, -2, -6, -7, -256));
        DUE.test("NONE for a which that is too large", () -> none(7, 8, 64, 256, 65536));
        DUE.test("NONE for a which that is far away", () -> none(Game.FAR));
        DUE.test("nothing changes", Promise15LookTest::changesNothing);
        DUE.end();
    }

    private static void characters() {
        Game game = new Game();
        for (int size = 0; size < 100; size++) {
            DUE.is("look(0)", game.look(0), size);
            game.type('x');
        }
        DUE.is("look(0) of a full text", game.look(0), 100);
        game.type('x');
        DUE.is("look(0) behind a refused type", game.look(0), 100);
        game.wipe();
        DUE.is("look(0) behind wipe", game.look(0), 0);
    }

    private static void looks(int which, int... values) {
        for (int value : values) {
            int[] all = {0, 3, 2, 5, 7};
            all[which - 1] = value;
            Game game = new Game();
            DUE.is("state", game.state(all[0], all[1], all[2], all[3], all[4]), true);
            DUE.is("look(" + which + ")", game.look(which), value);
        }
    }

    private static void moves() {
        Game game = Game.of("8/8/8/8/8/8/8/NNNNNNNN");
        DUE.is("look(6)", game.look(6), 0);
        for (int i = 0; i < 330; i++) {
            game.tell(i % 8 + 64 * (8 + i / 8), 0);
            if (i % 30 == 0) {
                DUE.is("look(6)", game.look(6), i + 1);
            }
        }
        DUE.is("look(6) of as many as there can be", game.look(6), 330);
        game.tell(7, 0);
        DUE.is("look(6) behind a refused tell", game.look(6), 330);
        game.forget();
        DUE.is("look(6) behind forget", game.look(6), 0);
    }

    private static void eachItsOwn() {
        Game game = Game.sample();
        int[] due = {6, 1, 9, 5, 66, 777, 6};
        for (int which = 0; which < due.length; which++) {
            DUE.is("look(" + which + ")", game.look(which), due[which]);
        }
    }

    private static void none(int... which) {
        for (int one : which) {
            DUE.is("look(" + one + ")", Game.sample().look(one), Game.NONE);
            DUE.is("look(" + one + ") of a new object", new Game().look(one), Game.NONE);
        }
    }

    private static void changesNothing() {
        Game game = Game.sample();
        for (int which = -2; which < 9; which++) {
            game.look(which);
        }
        DUE.is("what is left", game.seen(), Game.sample().seen());
    }
}
