/** Promises 11 to 14: tell, forget, spell, find. */
public final class MovesTest {
    private static final Due DUE = new Due();

    public static void main(String[] args) {
        telling();
        wrongTells();
        asManyAsThereCanBe();
        forgetting();
        spelledMen();
        spelledOrigins();
        spelledKings();
        spelledPawns();
        spellOfWhatWasNotTold();
        stateKeepsMoves();
        foundForms();
        foundNothing();
        foundCastling();
        foundAlmost();
        foundFirst();
        DUE.end();
    }

    /** Tells moves, each as in e7e8Q and behind a colon its sign, if it is not 0. */
    private static GameNotation told(String ranks, String moves) {
        GameNotation game = Due.board(ranks);
        for (String move : moves.split(" ")) {
            String[] parts = move.split(":");
            int sign = parts.length > 1 ? Integer.parseInt(parts[1]) : 0;
            DUE.is("tell " + move, game.tell(Due.move(parts[0]), sign), true);
        }
        return game;
    }

    private static void spelled(GameNotation game, String move, String want) {
        DUE.is("spell " + move, game.spell(Due.move(move)), want.length());
        DUE.is("the spelling of " + move, Due.textOf(game), want);
        DUE.is("find() of " + want, game.find(), Due.move(move));
        DUE.is("the text behind find()", Due.textOf(game), want);
    }

    private static void finds(GameNotation game, String text, int want) {
        Due.retype(game, text);
        String before = Due.seen(game);
        DUE.is("find() of '" + text + "'", game.find(), want);
        DUE.is("what is left behind it", Due.seen(game), before);
    }

    private static void telling() {
        GameNotation game = Due.board("4k3/4P3/8/8/8/8/8/R3K3");
        String[] moves = {"a1a8", "e1e2", "e7e8", "e7e8N", "e7e8B", "e7e8R", "e7e8Q", "e7a1Q", "e8e7"};
        for (int i = 0; i < moves.length; i++) {
            DUE.is("tell " + moves[i], game.tell(Due.move(moves[i]), i % 3), true);
            DUE.is("look(6)", game.look(6), i + 1);
        }
        for (String move : moves) {
            for (int sign = 0; sign < 3; sign++) {
                DUE.is("tell again " + move, game.tell(Due.move(move), sign), false);
            }
        }
        DUE.is("look(6)", game.look(6), moves.length);
    }

    private static void wrongTells() {
        GameNotation game = Due.board("4k3/4P3/8/8/8/8/8/R3K3");
        game.tell(Due.move("a1a8"), 1);
        Due.retype(game, "text");
        String before = Due.seen(game);
        int right = Due.move("a1a2");
        int pawn = Due.move("e7e8");
        int[][] wrong = {{-1, 0}, {right, -1}, {right, 3}, {right, Integer.MAX_VALUE}, {right, Integer.MIN_VALUE},
            {right + 2 * 4096, 0}, {right + 5 * 4096, 0}, {right + 4096, 0}, {right + 6 * 4096, 0},
            {pawn + 4096, 0}, {pawn + 6 * 4096, 0}, {pawn + 7 * 4096, 0}, {pawn + 8 * 4096, 0}, {pawn + 16 * 4096, 0},
            {pawn - 8 * 4096, 0}, {Integer.MIN_VALUE + pawn, 0}, {Integer.MAX_VALUE, 0}, {Integer.MIN_VALUE, 0},
            {Due.move("a1a1"), 0}, {Due.move("e7e7"), 0}, {Due.move("e7e7Q"), 0}, {Due.move("b1a1"), 0}, {Due.move("b1c1Q"), 0},
            {Due.move("e8e7Q"), 0}, {Due.move("a1a8"), 0}, {Due.move("a1a8"), 1}, {Due.move("a1a8"), 2}};
        for (int[] pair : wrong) {
            DUE.is("tell(" + pair[0] + ", " + pair[1] + ")", game.tell(pair[0], pair[1]), false);
            DUE.is("what is left behind it", Due.seen(game), before);
        }
        spelled(game, "a1a8", "Ra8+");
    }

    private static void asManyAsThereCanBe() {
        GameNotation game = new GameNotation();
        for (int square = 0; square < 8; square++) {
            game.put(square, 1 + square % 6);
        }
        int count = 0;
        int next = 0;
        for (; count < 330; next++) {
            if (next % 64 < 8 && next / 64 != next % 64) {
                DUE.is("tell(" + next + ", " + count % 3 + ")", game.tell(next, count % 3), true);
                count++;
            }
        }
        DUE.is("look(6)", game.look(6), 330);
        DUE.is("tell of one more", game.tell(Due.move("a1h8"), 0), false);
        DUE.is("look(6)", game.look(6), 330);
        DUE.isThrown("spell of one more", IllegalArgumentException.class, () -> game.spell(Due.move("a1h8")));
        DUE.is("spell of the first", game.spell(Due.move("b1a1")), 5);
        DUE.is("its text", Due.textOf(game), "Nbxa1");
        game.forget();
        DUE.is("tell behind forget", game.tell(Due.move("a1h8"), 0), true);
    }

    private static void forgetting() {
        GameNotation game = told("4k3/8/8/8/8/8/8/4K3", "e1e2 e8e7");
        game.state(1, 2, 3, 4, 5);
        Due.retype(game, "Ke2");
        game.forget();
        int[] due = {3, 1, 2, 3, 4, 5, 0};
        for (int which = 0; which < due.length; which++) {
            DUE.is("look(" + which + ") behind forget", game.look(which), due[which]);
        }
        DUE.is("at(4) behind forget", game.at(4), 6);
        DUE.is("find() behind forget", game.find(), -2);
        DUE.isThrown("spell behind forget", IllegalArgumentException.class, () -> game.spell(Due.move("e1e2")));
        DUE.is("the text", Due.textOf(game), "Ke2");
        DUE.is("tell behind forget", game.tell(Due.move("e1e2"), 0), true);
        game.forget();
        game.forget();
        DUE.is("look(6)", game.look(6), 0);
    }

    private static void spelledMen() {
        GameNotation game = told("4k3/8/5n2/8/q6r/8/5b2/RNBQK3", "a1a4 b1c3:1 c1h6:2 d1d8 e1e2 e1f2 a4a1:1 h4h1 f2e1 f6e4:2 e8d8 e8e7:1");
        spelled(game, "a1a4", "Rxa4");
        spelled(game, "b1c3", "Nc3+");
        spelled(game, "c1h6", "Bh6#");
        spelled(game, "d1d8", "Qd8");
        spelled(game, "e1e2", "Ke2");
        spelled(game, "e1f2", "Kxf2");
        spelled(game, "a4a1", "Qxa1+");
        spelled(game, "h4h1", "Rh1");
        spelled(game, "f2e1", "Bxe1");
        spelled(game, "f6e4", "Ne4#");
        spelled(game, "e8d8", "Kd8");
        spelled(game, "e8e7", "Ke7+");
    }

    private static void spelledOrigins() {
        GameNotation files = told("8/8/8/8/8/8/8/R6R", "a1d1 h1d1:1 a1a2");
        spelled(files, "a1d1", "Rad1");
        spelled(files, "h1d1", "Rhd1+");
        spelled(files, "a1a2", "Ra2");
        GameNotation ranks = told("R7/8/8/3n4/8/8/8/R7", "a1a4 a8a4 a1d5 a8d5:2");
        spelled(ranks, "a1a4", "R1a4");
        spelled(ranks, "a8a4", "R8a4");
        spelled(ranks, "a8d5", "R8xd5#");
        GameNotation both = told("8/8/8/8/Q6Q/8/8/7Q", "h4e1 a4e1 h1e1 h4h8");
        spelled(both, "h4e1", "Qh4e1");
        spelled(both, "a4e1", "Qae1");
        spelled(both, "h1e1", "Q1e1");
        GameNotation neither = told("8/8/8/8/8/8/8/1N3N2", "b1d2 f1e3");
        spelled(neither, "b1d2", "Nd2");
        GameNotation sides = told("8/8/8/8/8/5n2/8/1N6", "b1d2 f3d2:1");
        spelled(sides, "b1d2", "Nd2");
        spelled(sides, "f3d2", "Nd2+");
        GameNotation kinds = told("8/8/8/8/8/8/8/1N3B2", "b1d2 f1d2");
        spelled(kinds, "b1d2", "Nd2");
        spelled(kinds, "f1d2", "Bd2");
        GameNotation far = told("q7/8/8/8/8/8/8/q6q", "a1h8 h1h8 a8h8");
        spelled(far, "a1h8", "Qa1h8");
        spelled(far, "h1h8", "Qhh8");
        spelled(far, "a8h8", "Q8h8");
        GameNotation diagonal = told("8/8/8/8/8/8/8/B1B5", "a1b2 c1b2");
        diagonal.put(16, 3);
        for (String move : new String[] {"a1b2", "c1b2", "a3b2"}) {
            diagonal.tell(Due.move(move), 0);
        }
        spelled(diagonal, "a1b2", "Ba1b2");
        spelled(diagonal, "c1b2", "Bcb2");
        spelled(diagonal, "a3b2", "B3b2");
    }

    private static void spelledKings() {
        GameNotation game = told("4k3/8/8/8/8/8/8/R3K2R", "e1g1 e1c1:1 e8g8:2 e8c8 e1f1 e1h1 e1a1 e1g8:1 e1a8 e1e8");
        spelled(game, "e1g1", "0-0");
        spelled(game, "e1c1", "0-0-0+");
        spelled(game, "e8g8", "0-0#");
        spelled(game, "e1f1", "Kf1");
        spelled(game, "e1e8", "Kxe8");
        String[] up = {"e1h1", "e1g8"};
        String[] upSpelled = {"0-0", "0-0+"};
        for (int i = 0; i < up.length; i++) {
            game.spell(Due.move(up[i]));
            DUE.is("the spelling of " + up[i], Due.textOf(game), upSpelled[i]);
        }
        for (String down : new String[] {"e8c8", "e1a1", "e1a8"}) {
            game.spell(Due.move(down));
            DUE.is("the spelling of " + down, Due.textOf(game), "0-0-0");
        }
        GameNotation kings = told("8/8/8/8/8/8/8/K1K1K3", "a1b1 c1b1 e1c1 e1b1 a1c1 c1d1");
        spelled(kings, "a1b1", "Kab1");
        spelled(kings, "c1b1", "Kcb1");
        spelled(kings, "c1d1", "Kd1");
        GameNotation castling = told("8/8/8/8/8/8/8/4KK2", "f1g1 e1g1");
        spelled(castling, "f1g1", "Kfg1");
        spelled(castling, "e1g1", "0-0");
        GameNotation otherSide = told("8/8/8/8/8/8/8/4Kk2", "f1g1 e1g1");
        spelled(otherSide, "f1g1", "Kg1");
    }

    private static void spelledPawns() {
        GameNotation game = told("3r4/4P3/8/3pP3/8/8/P7/1N6",
                "e5d6:1 e5e6:2 a2a4 a2a3 a2b3 e7e8Q e7e8N:1 e7d8R:2 e7d8B d5d4 d5e4 e7f8 e7e8 d5e5 d5d8 a2b1N");
        spelled(game, "e5d6", "exd6+");
        spelled(game, "e5e6", "e6#");
        spelled(game, "a2a4", "a4");
        spelled(game, "a2b3", "axb3");
        spelled(game, "e7e8Q", "e8Q");
        spelled(game, "e7e8N", "e8N+");
        spelled(game, "e7d8R", "exd8R#");
        spelled(game, "e7d8B", "exd8B");
        spelled(game, "d5d4", "d4");
        spelled(game, "d5e4", "dxe4");
        spelled(game, "e7f8", "exf8");
        spelled(game, "e7e8", "e8");
        spelled(game, "d5e5", "dxe5");
        spelled(game, "d5d8", "d8");
        spelled(game, "a2b1N", "axb1N");
    }

    private static void spellOfWhatWasNotTold() {
        GameNotation game = told("8/4P3/8/8/8/8/8/4K3", "e1e2 e7e8Q:2");
        Due.retype(game, "text");
        String before = Due.seen(game);
        int[] wrong = {Due.move("e1e3"), Due.move("e7e8"), Due.move("e7e8N"), 0, -1, 4096, Integer.MIN_VALUE, Integer.MAX_VALUE,
            Due.move("e1e2") + 65536, Due.move("e1e2") + 2 * 4096};
        for (int move : wrong) {
            DUE.isThrown("spell(" + move + ")", IllegalArgumentException.class, () -> game.spell(move));
            DUE.is("what is left behind it", Due.seen(game), before);
        }
        spelled(game, "e7e8Q", "e8Q#");
    }

    private static void stateKeepsMoves() {
        GameNotation game = told("4k3/8/8/8/8/8/8/4K3", "e1e2 e8e7:1");
        game.state(1, 15, 3, 4, 5);
        spelled(game, "e1e2", "Ke2");
        spelled(game, "e8e7", "Ke7+");
        game.write();
        DUE.is("look(6) behind write()", game.look(6), 2);
    }

    private static void foundForms() {
        GameNotation none = new GameNotation();
        String[] form = {"0-0", "0-0-0", "0-0+", "0-0-0#", "Ke2", "Qa1", "Rh8", "Bd4", "Nc3", "Nbd2", "N1d2", "Nb1d2", "Nxd2", "Nbxd2",
            "N1xd2", "Nb1xd2", "Nb1xd2+", "Nb1xd2#", "Kxe2#", "e4", "a1", "h8", "exd5", "exe5", "axh1", "e8Q", "e8R", "e8B", "e8N", "exd8Q",
            "exd8N+", "e4Q#", "e4+", "e4#", "bxc3", "Bxc3", "b3", "Bb3"};
        for (String text : form) {
            finds(none, text, -2);
        }
        String[] other = {"", "+", "#", "0", "0-", "0-0-", "0-0-0-", "0-0-0-0", "0-1", "O-O", "0-0++", "0-0#+", "0-0 ", " 0-0", "0-0Q", "00",
            "K", "Ke", "K2", "e", "4", "P", "Pe4", "Ke9", "Ki2", "Ke0", "ke2", "K+", "Ke2Q", "Ke2=", "Nbcd2", "N12d2", "N1bd2", "Nb1d2d3",
            "Nxxd2", "Nxbd2", "Nx1d2", "Nb1xxd2", "NNd2", "Ne", "N4", "Nx", "Nxd", "Nd2x", "Nd2 ", " Nd2", "Nd2+ ", "Nd2+#", "Nd2++", "+Nd2",
            "e9", "i4", "e0", "E4", "ee4", "e4e5", "e2e4", "ed5", "exd", "ex5", "xd5", "4xd5", "exxd5", "e4xd5", "Exd5", "e8K", "e8P", "e8q",
            "e8QQ", "e8Q+Q", "e8=Q", "exd8K", "e8+Q", "Q", "Q8", "eQ", "x", "exd8QN", "axb", "a", "KQRBN", "Kb1xd2Q", "1", "12", "ab", "e4.",
            "e4!", "--", "0-0-0-0-0", "Ne44", "Nee4e", "N4e4e4", "N4e4ee"};
        for (String text : other) {
            finds(none, text, -1);
        }
        StringBuilder longest = new StringBuilder();
        for (int i = 0; i < 50; i++) {
            longest.append("e4");
        }
        finds(none, longest.toString(), -1);
    }

    private static void foundNothing() {
        GameNotation game = told("8/4P3/8/8/8/8/8/1N3N1K", "b1d2 f1d2 e7e8Q e7e8R e7d8N h1h2 f1e3");
        finds(game, "Nbd2", Due.move("b1d2"));
        finds(game, "Nc3", -2);
        finds(game, "Bd2", -2);
        finds(game, "Kd2", -2);
        finds(game, "d2", -2);
        finds(game, "e8", -2);
        finds(game, "e8N", -2);
        finds(game, "e8B", -2);
        finds(game, "exd8Q", -2);
        finds(game, "exd8", -2);
        finds(game, "e8R", Due.move("e7e8R"));
        finds(game, "0-0", -2);
        finds(game, "0-0-0", -2);
        finds(game, "Nd2", -3);
        finds(game, "Nad2", -3);
        finds(game, "N1d2", -3);
        finds(game, "Nb1d2", -3);
        finds(game, "Nbxd2", -3);
        finds(game, "Nb3d2+", -3);
        finds(game, "Nfe3", -3);
        finds(game, "Nxe3#", -3);
        finds(game, "dxe8Q", -3);
        finds(game, "exe8Q", -3);
        finds(game, "d8N", -3);
        finds(game, "fxd8N", -3);
        finds(game, "Khh2", -3);
    }

    private static void foundCastling() {
        GameNotation up = told("8/8/8/8/8/8/8/4K2R", "e1g1:1");
        finds(up, "0-0+", Due.move("e1g1"));
        finds(up, "0-0", -4);
        finds(up, "0-0#", -4);
        finds(up, "0-0-0", -2);
        finds(up, "0-0-0+", -2);
        finds(up, "Kg1", -2);
        finds(up, "Kg1+", -2);
        finds(up, "Keg1+", -2);
        GameNotation down = told("4k3/8/8/8/8/8/8/8", "e8c8");
        finds(down, "0-0-0", Due.move("e8c8"));
        finds(down, "0-0-0#", -4);
        finds(down, "0-0", -2);
        finds(down, "Kc8", -2);
        GameNotation both = told("8/8/8/8/8/8/8/4KK2", "e1g1 f1g1:2");
        finds(both, "Kfg1#", Due.move("f1g1"));
        finds(both, "Kfg1", -4);
        finds(both, "Kg1#", -3);
        finds(both, "Keg1", -3);
        finds(both, "0-0", Due.move("e1g1"));
        GameNotation others = told("8/8/8/8/8/8/8/Q3R3", "a1c1 e1g1");
        finds(others, "0-0", -2);
        finds(others, "0-0-0", -2);
    }

    private static void foundAlmost() {
        GameNotation game = told("8/4P3/8/8/8/8/8/1N5K", "b1d2:1 b1c3 e7e8Q:2 e7d8N h1h2:1");
        finds(game, "Nd2+", Due.move("b1d2"));
        finds(game, "Nd2", -4);
        finds(game, "Nd2#", -4);
        finds(game, "Nc3", Due.move("b1c3"));
        finds(game, "Nc3+", -4);
        finds(game, "Nc3#", -4);
        finds(game, "e8Q", -4);
        finds(game, "e8Q+", -4);
        finds(game, "e8Q#", Due.move("e7e8Q"));
        finds(game, "exd8N+", -4);
        finds(game, "Kh2", -4);
        finds(game, "Kxh2+", -3);
    }

    private static void foundFirst() {
        GameNotation pawns = told("8/8/4p3/8/8/8/4P3/8", "e6e4 e2e4");
        finds(pawns, "e4", Due.move("e6e4"));
        GameNotation reversed = told("8/8/4p3/8/8/8/4P3/8", "e2e4 e6e4");
        finds(reversed, "e4", Due.move("e2e4"));
        GameNotation signed = told("8/8/4p3/8/8/8/4P3/8", "e2e4:1 e6e4");
        finds(signed, "e4", Due.move("e6e4"));
        finds(signed, "e4+", Due.move("e2e4"));
        finds(signed, "e4#", -4);
        GameNotation sides = told("8/8/8/8/8/5n2/8/1N6", "f3d2 b1d2");
        finds(sides, "Nd2", Due.move("f3d2"));
        GameNotation kings = told("4k3/8/8/8/8/8/8/4K3", "e8g8 e1g1 e1h1");
        finds(kings, "0-0", Due.move("e8g8"));
        GameNotation captures = told("8/8/8/3P1P2/8/8/8/8", "d5e6 f5e6");
        finds(captures, "fxe6", Due.move("f5e6"));
        finds(captures, "e6", -3);
    }
}
