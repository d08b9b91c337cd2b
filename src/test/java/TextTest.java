/** Promises 1 to 4, and of 15 what it says of the text: a new object, type, wipe, text. */
public final class TextTest {
    private static final Due DUE = new Due();

    public static void main(String[] args) {
        newObject();
        newObjectHasNoMoves();
        typing();
        wrongBytes();
        tooMany();
        wiping();
        characters();
        DUE.end();
    }

    private static void newObject() {
        GameNotation game = new GameNotation();
        int[] state = {0, 0, 0, GameNotation.NONE, 0, 1, 0};
        for (int which = 0; which < state.length; which++) {
            DUE.is("look(" + which + ") of a new object", game.look(which), state[which]);
        }
        for (int square = 0; square < 64; square++) {
            DUE.is("at(" + square + ") of a new object", game.at(square), 0);
        }
        DUE.is("text(0) of a new object", game.text(0), GameNotation.NONE);
        DUE.is("write() of a new object", game.write(), 25);
        DUE.is("the record of a new object", Due.textOf(game), "8/8/8/8/8/8/8/8 w - - 0 1");
    }

    private static void newObjectHasNoMoves() {
        GameNotation game = new GameNotation();
        DUE.isThrown("spell(0) of a new object", IllegalArgumentException.class, () -> game.spell(0));
        DUE.is("find() of a new object", game.find(), -1);
        DUE.is("two objects share nothing", new GameNotation().put(0, 1) && game.at(0) == 0, true);
    }

    private static void typing() {
        GameNotation game = new GameNotation();
        DUE.is("type of eight", game.type(Due.part("abcdefgh")), true);
        DUE.is("the text", Due.textOf(game), "abcdefgh");
        DUE.is("type of one", game.type('~'), true);
        DUE.is("type of a blank", game.type(' '), true);
        DUE.is("type(0)", game.type(0), true);
        DUE.is("the text", Due.textOf(game), "abcdefgh~ ");
        DUE.is("type with gaps", game.type(0x0041004200430000L), true);
        DUE.is("the text", Due.textOf(game), "abcdefgh~ ABC");
        DUE.is("type of the highest byte", game.type(0x5A00000000000000L), true);
        DUE.is("the text", Due.textOf(game), "abcdefgh~ ABCZ");
    }

    private static void wrongBytes() {
        GameNotation game = new GameNotation();
        game.type('a');
        for (int code = 1; code < 256; code++) {
            boolean right = code >= 32 && code <= 126;
            for (int shift = 0; shift < 64; shift += 8) {
                long part = (long) code << shift;
                game.wipe();
                game.type('a');
                DUE.is("type(" + part + ")", game.type(part), right);
                DUE.is("look(0)", game.look(0), right ? 2 : 1);
                DUE.is("text(1)", game.text(1), right ? code : GameNotation.NONE);
            }
        }
        game.wipe();
        DUE.is("type of right bytes with a wrong last one", game.type(Due.part("abcdefg\n")), false);
        DUE.is("type of right bytes with a wrong first one", game.type(Due.part("\u00e4bcdefgh")), false);
        DUE.is("type(-1)", game.type(-1), false);
        DUE.is("type(Long.MIN_VALUE)", game.type(Long.MIN_VALUE), false);
        DUE.is("the text", Due.textOf(game), "");
    }

    private static void tooMany() {
        GameNotation game = new GameNotation();
        for (int i = 0; i < 12; i++) {
            DUE.is("type", game.type(Due.part("12345678")), true);
        }
        DUE.is("type of five behind 96", game.type(Due.part("abcde")), false);
        DUE.is("look(0)", game.look(0), 96);
        DUE.is("type of four behind 96", game.type(0x6100620063006400L), true);
        DUE.is("look(0)", game.look(0), 100);
        DUE.is("type of one behind 100", game.type('x'), false);
        DUE.is("type of none behind 100", game.type(0), true);
        DUE.is("text(99)", game.text(99), 'd');
        DUE.is("text(100)", game.text(100), GameNotation.NONE);
        game.wipe();
        DUE.is("type behind wipe", game.type('x'), true);
        DUE.is("the text", Due.textOf(game), "x");
    }

    private static void wiping() {
        GameNotation game = Due.board("4k3/8/8/8/8/8/8/4K3");
        game.state(1, 0, 3, 4, 5);
        game.tell(Due.move("e1e2"), 0);
        String before = Due.seen(game);
        game.type(Due.part("Ke2"));
        game.wipe();
        DUE.is("what wipe leaves", Due.seen(game), before);
        DUE.is("text(0)", game.text(0), GameNotation.NONE);
        game.wipe();
        DUE.is("look(0) behind wipe twice", game.look(0), 0);
    }

    private static void characters() {
        GameNotation game = new GameNotation();
        Due.retype(game, "e2 e4 ~");
        DUE.is("text(0)", game.text(0), 'e');
        DUE.is("text(2)", game.text(2), ' ');
        DUE.is("text(6)", game.text(6), '~');
        for (int i : new int[] {7, 8, 99, 100, 101, -1, -2, Integer.MAX_VALUE, Integer.MIN_VALUE}) {
            DUE.is("text(" + i + ")", game.text(i), GameNotation.NONE);
        }
    }
}
