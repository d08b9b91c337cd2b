/** Promise 6: write. */
public final class Promise06WriteTest {
    private static final Due DUE = new Due("Promise 6, write");
    private static final String EMPTY = "8/8/8/8/8/8/8/8";
    private static final String KINGS = "4k3/8/8/8/8/8/8/4K3";

    public static void main(String[] args) {
        DUE.test("an empty board: one digit 8 for each rank", () -> writes(new Game(), EMPTY + " w - - 0 1"));
        DUE.test("a full board: no digit", Promise06WriteTest::fullBoard);
        DUE.test("each man on each square", Promise06WriteTest::eachManOnEachSquare);
        DUE.test("a digit for so many empty ones, never two side by side", Promise06WriteTest::digits);
        DUE.test("each SIDE", Promise06WriteTest::sides);
        DUE.test("each sum of RIGHTS, with - for none", Promise06WriteTest::rights);
        DUE.test("each PASSANT with 6 or 3, and - for NONE", Promise06WriteTest::passants);
        DUE.test("CLOCK 0 .. 999 without a 0 ahead", Promise06WriteTest::clocks);
        DUE.test("NUMBER 1 .. 9999 without a 0 ahead", Promise06WriteTest::numbers);
        DUE.test("RIGHT or not", Promise06WriteTest::notRight);
        DUE.test("the text becomes that, whatever it was", Promise06WriteTest::formerText);
        DUE.test("the longest record: 90 characters", Promise06WriteTest::longest);
        DUE.test("the position and the moves stay", Promise06WriteTest::theRestStays);
        DUE.test("what is written of a RIGHT position can be read", Promise06WriteTest::readBack);
        DUE.end();
    }

    private static void writes(Game game, String want) {
        DUE.is("write()", game.write(), want.length());
        DUE.is("the text", game.text(), want);
        DUE.is("look(0)", game.look(0), want.length());
    }

    private static void fullBoard() {
        String ranks = "rnbqkbnr/pppppppp/PNBRQKpn/KKKKKKKK/kkkkkkkk/QQQQQQQQ/PPPPPPPP/RNBQKBNR";
        writes(Game.of(ranks), ranks + " w - - 0 1");
    }

    private static void eachManOnEachSquare() {
        for (int square = 0; square < 64; square++) {
            for (int man = 1; man <= 12; man++) {
                Game game = new Game();
                game.put(square, man);
                int file = square % 8;
                String rank = (file > 0 ? "" + file : "") + "PNBRQKpnbrqk".charAt(man - 1) + (file < 7 ? "" + (7 - file) : "");
                writes(game, "8/".repeat(7 - square / 8) + rank + "/8".repeat(square / 8) + " w - - 0 1");
            }
        }
    }

    private static void digits() {
        for (String rank : new String[] {"p1p1p1p1", "1p1p1p1p", "2p2p2", "p6p", "3pp3", "pppp4", "4pppp", "p2p3p", "1p6", "6p1", "p1p5"}) {
            writes(Game.of(rank + "/8/8/8/8/8/8/" + rank), rank + "/8/8/8/8/8/8/" + rank + " w - - 0 1");
        }
        writes(Game.of("7p/p7/7p/8/p7/8/8/7p"), "7p/p7/7p/8/p7/8/8/7p w - - 0 1");
    }

    private static Game with(int side, int rights, int passant, int clock, int number) {
        Game game = new Game();
        DUE.is("state", game.state(side, rights, passant, clock, number), true);
        return game;
    }

    private static void sides() {
        writes(with(0, 0, Game.NONE, 0, 1), EMPTY + " w - - 0 1");
        writes(with(1, 0, Game.NONE, 0, 1), EMPTY + " b - - 0 1");
    }

    private static void rights() {
        String[] letters = {"-", "K", "Q", "KQ", "k", "Kk", "Qk", "KQk", "q", "Kq", "Qq", "KQq", "kq", "Kkq", "Qkq", "KQkq"};
        for (int rights = 0; rights < 16; rights++) {
            writes(with(0, rights, Game.NONE, 0, 1), EMPTY + " w " + letters[rights] + " - 0 1");
        }
    }

    private static void passants() {
        for (int file = 0; file < 8; file++) {
            writes(with(0, 0, file, 0, 1), EMPTY + " w - " + (char) ('a' + file) + "6 0 1");
            writes(with(1, 0, file, 0, 1), EMPTY + " b - " + (char) ('a' + file) + "3 0 1");
        }
        Game game = with(1, 0, 3, 0, 1);
        game.state(1, 0, Game.NONE, 0, 1);
        writes(game, EMPTY + " b - - 0 1");
    }

    private static void clocks() {
        for (int clock = 0; clock <= 999; clock++) {
            writes(with(0, 0, Game.NONE, clock, 1), EMPTY + " w - - " + clock + " 1");
        }
    }

    private static void numbers() {
        for (int number = 1; number <= 9999; number++) {
            writes(with(0, 0, Game.NONE, 0, number), EMPTY + " w - - 0 " + number);
        }
    }

    private static void notRight() {
        String[] notRight = {"KKkk4/8/8/8/8/8/8/8 w - - 0 1", "PPpp4/8/8/8/8/8/8/PPpp4 w - - 0 1", "QQQQQQQQ/PPPPPPPP/PPPPPPPP/8/8/8/8/8 b - - 0 1",
            KINGS + " w KQkq - 0 1", KINGS + " w - e6 0 1", KINGS + " b - e3 7 1", "4k3/8/8/8/8/8/8/K3R3 w - - 0 1"};
        for (String text : notRight) {
            String[] fields = text.split(" ");
            Game game = Game.of(fields[0]);
            int passant = fields[3].equals("-") ? Game.NONE : fields[3].charAt(0) - 'a';
            game.state(fields[1].equals("w") ? 0 : 1, fields[2].equals("-") ? 0 : 15, passant, Integer.parseInt(fields[4]), 1);
            writes(game, text);
            DUE.is("record() refuses it", game.record() >= 7, true);
        }
    }

    private static void formerText() {
        for (String former : new String[] {"", "x", "x".repeat(100), EMPTY + " w - - 0 1"}) {
            writes(Game.of(KINGS).typed(former), KINGS + " w - - 0 1");
        }
        Game game = Game.of(KINGS);
        writes(game, KINGS + " w - - 0 1");
        game.put(4, 0);
        writes(game, "4k3/8/8/8/8/8/8/8 w - - 0 1");
        DUE.is("type of more", game.type('x'), true);
        DUE.is("the text", game.text(), "4k3/8/8/8/8/8/8/8 w - - 0 1x");
    }

    private static void longest() {
        String ranks = "kkkkkkkk" + "/kkkkkkkk".repeat(7);
        Game game = Game.of(ranks);
        game.state(1, 15, 1, 999, 9999);
        DUE.is("write()", game.write(), 90);
        DUE.is("the text", game.text(), ranks + " b KQkq b3 999 9999");
    }

    private static void theRestStays() {
        Game game = Game.sample();
        game.write();
        game.write();
        DUE.is("what else is there", game.seenBesidesText(), Game.sample().seenBesidesText());
    }

    private static void readBack() {
        Game game = Game.of("r3k2r/8/8/3pP3/8/8/8/R3K2R");
        game.state(0, 15, 3, 0, 9999);
        game.write();
        DUE.is("record()", game.record(), 0);
        writes(game, "r3k2r/8/8/3pP3/8/8/8/R3K2R w KQkq d6 0 9999");
    }
}
