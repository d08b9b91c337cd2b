/** Promises 5 and 6: record and write. */
public final class RecordTest {
    private static final Due DUE = new Due();
    private static final String KINGS = "4k3/8/8/8/8/8/8/4K3";
    private static final String START = "rnbqkbnr/pppppppp/8/8/8/8/PPPPPPPP/RNBQKBNR";

    public static void main(String[] args) {
        rightOnes();
        positionRead();
        fields();
        kingsAndMen();
        castling();
        passant();
        attackedKing();
        firstOfSeveral();
        refusedChangesNothing();
        movesTold();
        writing();
        DUE.end();
    }

    private static void answers(int fault, String text) {
        GameNotation game = new GameNotation();
        Due.retype(game, text);
        DUE.is("record() of '" + text + "'", game.record(), fault);
        DUE.is("the text behind record()", Due.textOf(game), text);
        if (fault == 0) {
            game.wipe();
            DUE.is("write()", game.write(), text.length());
            DUE.is("the record written", Due.textOf(game), text);
        }
    }

    private static void rightOnes() {
        answers(0, START + " w KQkq - 0 1");
        answers(0, START + " b KQkq - 0 1");
        answers(0, KINGS + " w - - 0 1");
        answers(0, KINGS + " b - - 999 9999");
        answers(0, KINGS + " b - - 10 100");
        answers(0, "r3k2r/8/8/8/8/8/8/R3K2R w Kk - 7 20");
        answers(0, "r3k2r/8/8/8/8/8/8/R3K2R w Qq - 7 20");
        answers(0, "r3k2r/8/8/8/8/8/8/R3K2R w Qkq - 7 20");
        answers(0, "1k1K4/p1p1p1p1/1p1p1p1p/8/8/P1P1P1P1/1P1P1P1P/8 b - - 0 1");
    }

    private static void positionRead() {
        GameNotation game = new GameNotation();
        Due.retype(game, "r3k1n1/8/8/1pP4b/8/8/Q7/4KB1R b K c3 0 77");
        DUE.is("record() without the passant's pawn", game.record(), 10);
        String right = "r3k1n1/8/8/1p5b/2P5/8/Q7/4KB1R b Kq c3 0 77";
        Due.retype(game, right);
        DUE.is("record()", game.record(), 0);
        int[] state = {right.length(), 1, 9, 2, 0, 77, 0};
        for (int which = 0; which < state.length; which++) {
            DUE.is("look(" + which + ")", game.look(which), state[which]);
        }
        String[] squares = {"a8", "e8", "g8", "b5", "h5", "c4", "a2", "e1", "f1", "h1", "a1", "h8", "d4"};
        int[] men = {10, 12, 8, 7, 9, 1, 5, 6, 3, 4, 0, 0, 0};
        for (int i = 0; i < squares.length; i++) {
            DUE.is("at " + squares[i], game.at(Due.square(squares[i])), men[i]);
        }
        Due.retype(game, KINGS + " w - - 5 6");
        DUE.is("record() behind another", game.record(), 0);
        DUE.is("at a8", game.at(56), 0);
        DUE.is("look(3)", game.look(3), GameNotation.NONE);
    }

    private static void fields() {
        String[] first = {"", " ", KINGS, "4k3/8/8/8/8/8/8/4K3/ w - - 0 1", "4k3/8/8/8/8/8/4K3 w - - 0 1",
            "4k3/8/8/8/8/8/8/8/4K3 w - - 0 1", "4k3/8/8/8/8/8/8/4K2 w - - 0 1", "4k3/8/8/8/8/8/8/4K4 w - - 0 1",
            "4k3/8/8/8/8/8/8/4K12 w - - 0 1", "4k3/8/8/44/8/8/8/4K3 w - - 0 1", "4k3/9/8/8/8/8/8/4K3 w - - 0 1",
            "4k3/08/8/8/8/8/8/4K3 w - - 0 1", "4k3/80/8/8/8/8/8/4K3 w - - 0 1", "4k3/8/8/8/8/8/8/4X3 w - - 0 1",
            " " + KINGS + " w - - 0 1", "4k3//8/8/8/8/8/8/4K3 w - - 0 1", "/4k3/8/8/8/8/8/8/4K3 w - - 0 1",
            "4k3/8/8/8/8/8/8/4K3w - - 0 1", "4k3 8/8/8/8/8/8/4K3 w - - 0 1", "4k3/8/8/7p1/8/8/8/4K3 w - - 0 1",
            "4k3/ppppppppp/8/8/8/8/8/4K3 w - - 0 1", "4k3/8.8/8/8/8/8/8/4K3 w - - 0 1", "4k3/8/8/8/8/8/8/4K3_w - - 0 1"};
        String[] second = {" ", " w", " b", " W - - 0 1", "  w - - 0 1", " wb - - 0 1", " ww - - 0 1", " - - - 0 1", " w/- - 0 1"};
        String[] third = {" w ", " w -", " w  - - 0 1", " w KQkq", " w QK - 0 1", " w KK - 0 1", " w qk - 0 1", " w -K - 0 1",
            " w K- - 0 1", " w -- - 0 1", " w kK - 0 1", " w X - 0 1", " w KQkqK - 0 1", " w KQkqx - 0 1"};
        String[] fourth = {" w - ", " w - -", " w -  - 0 1", " w - e 0 1", " w - e3 0 1", " b - e6 0 1", " w - e5 0 1", " w - i6 0 1",
            " w - E6 0 1", " w - 6e 0 1", " w - e66 0 1", " w - -- 0 1", " w - e6- 0 1", " w - -e6 0 1", " w - 6 0 1", " w - e6"};
        String[] fifth = {" w - - ", " w - - 0", " w - -  0 1", " w - - 00 1", " w - - 01 1", " w - - 1000 1", " w - - -1 1",
            " w - - +1 1", " w - - x 1", " w - - 1x 1", " w - - 99999999999999999999 1", " w - - 4294967296 1", " w - - - 1",
            " w - - 0000000 1"};
        String[] sixth = {" w - - 0 ", " w - - 0  1", " w - - 0 0", " w - - 0 01", " w - - 0 10000", " w - - 0 1 ", " w - - 0 1x",
            " w - - 0 1 1", " w - - 0 -1", " w - - 0 99999999999999999999", " w - - 0 4294967297", " w - - 0 00", " w - - 0 -"};
        for (String text : first) {
            answers(1, text);
        }
        String[][] others = {second, third, fourth, fifth, sixth};
        for (int i = 0; i < others.length; i++) {
            for (String rest : others[i]) {
                answers(i + 2, KINGS + rest);
            }
        }
        answers(1, KINGS + "/");
    }

    private static void kingsAndMen() {
        String rest = " w - - 0 1";
        answers(7, "8/8/8/8/8/8/8/8" + rest);
        answers(7, "8/8/8/8/8/8/8/4K3" + rest);
        answers(7, "4k3/8/8/8/8/8/8/8" + rest);
        answers(7, "4k3/8/8/8/8/8/8/2K1K3" + rest);
        answers(7, "2k1k3/8/8/8/8/8/8/4K3" + rest);
        answers(8, "4k2P/8/8/8/8/8/8/4K3" + rest);
        answers(8, "4k3/8/8/8/8/8/8/P3K3" + rest);
        answers(8, "p3k3/8/8/8/8/8/8/4K3" + rest);
        answers(8, "4k3/8/8/8/8/8/8/4K2p" + rest);
        answers(0, "4k3/P6p/8/8/8/8/p6P/4K3" + rest);
        answers(8, "4k3/8/8/8/8/P7/PPPPPPPP/4K3" + rest);
        answers(8, "4k3/pppppppp/p7/8/8/8/8/4K3" + rest);
        answers(0, "4k3/8/8/8/8/8/PPPPPPPP/RNBQKBNR" + rest);
        for (String third : new String[] {"N", "B", "R", "Q"}) {
            String all = third.equals("Q") ? "QQ6" : third + third + third + "5";
            String much = "4k3/8/8/8/8/" + all + "/PPPPPPPP/4K3";
            String enough = "4k3/8/8/8/8/" + all + "/PPPPPPP1/4K3";
            answers(8, much + " b - - 0 1");
            answers(0, enough + " b - - 0 1");
            answers(8, "4k3/pppppppp/" + all.toLowerCase() + "/8/8/8/8/4K3 w - - 0 1");
            answers(0, "4k3/ppppppp1/" + all.toLowerCase() + "/8/8/8/8/4K3 w - - 0 1");
        }
        answers(0, "4k3/8/8/8/8/NNN2BBB/PPPPP3/RRR1K3 b - - 0 1");
        answers(8, "4k3/8/8/8/8/NNN2BBB/PPPPPP2/RRR1K3 b - - 0 1");
        answers(0, "k7/8/8/8/8/8/1QQQQQQQ/1QQ1K3 b - - 0 1");
        answers(8, "k7/8/8/8/8/8/1QQQQQQQ/1QQ1KQ2 b - - 0 1");
        answers(0, "k7/8/8/8/8/8/1QQQQQQ1/1QQ1KRBN b - - 0 1");
    }

    private static void castling() {
        answers(0, "r3k2r/8/8/8/8/8/8/R3K2R w KQkq - 0 1");
        String[][] without = {
            {"K", "r3k2r/8/8/8/8/8/8/R3K3"}, {"Q", "r3k2r/8/8/8/8/8/8/4K2R"},
            {"k", "r3k3/8/8/8/8/8/8/R3K2R"}, {"q", "4k2r/8/8/8/8/8/8/R3K2R"},
            {"K", "r3k2r/8/8/8/8/8/8/R4K1R"}, {"Q", "r3k2r/8/8/8/8/8/8/R2K3R"},
            {"k", "r4k1r/8/8/8/8/8/8/R3K2R"}, {"q", "r2k3r/8/8/8/8/8/8/R3K2R"},
            {"K", "r3k2r/8/8/8/8/8/8/R3K2r"}, {"q", "R3k2r/8/8/8/8/8/8/4K3"},
            {"K", "4K3/8/8/8/8/8/8/R3k2R"}};
        for (String[] pair : without) {
            answers(9, pair[1] + " w " + pair[0] + " - 0 1");
            answers(9, pair[1] + " b " + pair[0] + " - 0 1");
        }
        answers(0, "r3k3/8/8/8/8/8/8/4K2R w Kq - 0 1");
        answers(9, "r3k3/8/8/8/8/8/8/4K2R w KQq - 0 1");
    }

    private static void passant() {
        answers(0, "4k3/8/8/3p4/8/8/8/4K3 w - d6 0 1");
        answers(0, "4k3/8/8/8/3P4/8/8/4K3 b - d3 0 1");
        answers(0, "4k3/8/8/p6p/8/8/8/4K3 w - a6 0 1");
        answers(0, "4k3/8/8/p6p/8/8/8/4K3 w - h6 0 1");
        answers(10, "4k3/8/8/3p4/8/8/8/4K3 w - e6 0 1");
        answers(10, "4k3/8/8/3P4/8/8/8/4K3 w - d6 0 1");
        answers(10, "4k3/8/8/8/3p4/8/8/4K3 b - d3 0 1");
        answers(10, "4k3/8/8/8/3p4/8/8/4K3 w - d6 0 1");
        answers(10, "4k3/8/8/3P4/8/8/8/4K3 b - d3 0 1");
        answers(10, "4k3/8/8/3n4/8/8/8/4K3 w - d6 0 1");
        answers(10, "4k3/8/3n4/3p4/8/8/8/4K3 w - d6 0 1");
        answers(10, "4k3/3n4/8/3p4/8/8/8/4K3 w - d6 0 1");
        answers(10, "4k3/8/8/8/3P4/3N4/8/4K3 b - d3 0 1");
        answers(10, "4k3/8/8/8/3P4/8/3N4/4K3 b - d3 0 1");
        answers(10, "4k3/8/8/3p4/8/8/8/4K3 w - d6 1 1");
        answers(10, "4k3/8/8/8/3P4/8/8/4K3 b - d3 999 1");
        answers(0, "3rk3/8/8/3p4/3P4/8/8/3RK3 w - d6 0 1");
    }

    private static void attackedKing() {
        answers(11, "4k3/8/8/8/8/8/8/K3R3 w - - 0 1");
        answers(0, "4k3/8/8/8/8/8/8/K3R3 b - - 0 1");
        answers(11, "4r2k/8/8/8/8/8/8/4K3 b - - 0 1");
        answers(0, "4r2k/8/8/8/8/8/8/4K3 w - - 0 1");
        answers(0, "4k3/8/8/4n3/8/8/8/K3R3 w - - 0 1");
        answers(11, "8/8/8/3kK3/8/8/8/8 w - - 0 1");
        answers(11, "8/8/8/3kK3/8/8/8/8 b - - 0 1");
        answers(11, "4k3/3P4/8/8/8/8/8/4K3 w - - 0 1");
        answers(11, "4k3/8/8/8/8/8/5p2/4K3 b - - 0 1");
        answers(0, "4k3/4P3/8/8/8/8/4p3/4K3 b - - 0 1");
        answers(11, "4k3/8/5N2/8/8/8/8/4K3 w - - 0 1");
        answers(11, "4k3/8/8/8/B7/8/8/4K3 w - - 0 1");
        answers(11, "4k3/8/8/8/Q7/8/8/4K3 w - - 0 1");
        answers(11, "4k2Q/8/8/8/8/8/8/4K3 w - - 0 1");
    }

    private static void firstOfSeveral() {
        answers(2, "8/8/8/8/8/8/8/8 x X X X X");
        answers(6, "8/8/8/8/8/8/8/8 w KQkq e6 9 0");
        answers(7, "P7/8/8/8/8/8/8/8 w KQkq e6 9 1");
        answers(8, "P3k3/8/8/8/8/8/8/K3R3 w KQkq e6 9 1");
        answers(9, "4k3/8/8/8/8/8/8/K3R3 w KQkq e6 9 1");
        answers(10, "4k3/8/8/8/8/8/8/K3R3 w - e6 9 1");
        answers(11, "4k3/8/8/8/8/8/8/K3R3 w - - 9 1");
    }

    private static void refusedChangesNothing() {
        String[] refused = {"", "r7/x", START + " b", START + " b KQkq x", START + " b KQkq e3 5", START + " b KQkq - 5 6 ",
            "r7/8/8/8/8/8/8/R7 b - - 3 4", "p3k3/8/8/8/8/8/8/4K3 b - - 3 4", "4k3/8/8/8/8/8/8/4K2R b Q - 3 4",
            "4k3/8/8/8/8/8/8/4K2R b - a3 3 4", "4k3/8/8/8/8/8/8/K3r3 b - - 3 4"};
        int[] faults = {1, 1, 2, 4, 5, 6, 7, 8, 9, 10, 11};
        for (int i = 0; i < refused.length; i++) {
            GameNotation game = Due.board("q6k/8/8/8/8/8/8/Q6K");
            game.state(1, 10, 5, 66, 777);
            game.tell(Due.move("a1a8"), 1);
            Due.retype(game, refused[i]);
            String before = Due.seen(game);
            DUE.is("record() of '" + refused[i] + "'", game.record(), faults[i]);
            DUE.is("what is left behind it", Due.seen(game), before);
            DUE.is("spell of what was told", game.spell(Due.move("a1a8")), 5);
        }
    }

    private static void movesTold() {
        GameNotation game = Due.board(KINGS);
        game.tell(Due.move("e1e2"), 0);
        Due.retype(game, KINGS + " w - - 0 1");
        DUE.is("look(6)", game.look(6), 1);
        DUE.is("record()", game.record(), 0);
        DUE.is("look(6) behind record()", game.look(6), 0);
        DUE.isThrown("spell behind record()", IllegalArgumentException.class, () -> game.spell(Due.move("e1e2")));
    }

    private static void writes(GameNotation game, String want) {
        DUE.is("write()", game.write(), want.length());
        DUE.is("the record written", Due.textOf(game), want);
        DUE.is("look(0)", game.look(0), want.length());
    }

    private static void writing() {
        GameNotation game = Due.board("p1p1p1p1/8/PNBRQKpn/1p6/6p1/bbbbbbbb/7P/q6k");
        game.type(Due.part("former"));
        game.state(1, 15, 0, 999, 9999);
        writes(game, "p1p1p1p1/8/PNBRQKpn/1p6/6p1/bbbbbbbb/7P/q6k b KQkq a3 999 9999");
        game.state(0, 9, 7, 10, 1000);
        writes(game, "p1p1p1p1/8/PNBRQKpn/1p6/6p1/bbbbbbbb/7P/q6k w Kq h6 10 1000");
        game.state(0, 6, GameNotation.NONE, 100, 10);
        writes(game, "p1p1p1p1/8/PNBRQKpn/1p6/6p1/bbbbbbbb/7P/q6k w Qk - 100 10");
        game.state(1, 0, 4, 0, 909);
        writes(game, "p1p1p1p1/8/PNBRQKpn/1p6/6p1/bbbbbbbb/7P/q6k b - e3 0 909");
        GameNotation full = new GameNotation();
        for (int square = 0; square < 64; square++) {
            full.put(square, 12);
        }
        full.state(1, 15, 1, 999, 9999);
        String rank = "kkkkkkkk";
        writes(full, String.join("/", rank, rank, rank, rank, rank, rank, rank, rank) + " b KQkq b3 999 9999");
        GameNotation told = Due.board(KINGS);
        told.tell(Due.move("e1e2"), 2);
        writes(told, KINGS + " w - - 0 1");
        DUE.is("look(6) behind write()", told.look(6), 1);
    }
}
