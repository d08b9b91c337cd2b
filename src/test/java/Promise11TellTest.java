/** Promise 11: tell. */
public final class Promise11TellTest {
    private static final Due DUE = new Due("Promise 11, tell");
    private static final String RANKS = "4k3/4P3/8/8/8/8/4p3/R3K3";

    public static void main(String[] args) {
        DUE.test("a move is told: true", Promise11TellTest::told);
        DUE.test("each of 0, 2, 3, 4, 5 for what a pawn becomes, on any rank", Promise11TellTest::becomes);
        DUE.test("each sign 0 .. 2", Promise11TellTest::signs);
        DUE.test("moves of either side, whoever is to move, wherever they go", Promise11TellTest::eitherSide);
        DUE.test("from each square to each other one", Promise11TellTest::eachSquare);
        DUE.test("the smallest and the largest number", Promise11TellTest::endsOfTheNumbers);
        DUE.test("false if the number is less than 0", Promise11TellTest::negative);
        DUE.test("false if the number is too large", Promise11TellTest::tooLarge);
        DUE.test("false if a pawn would become 1, 6 or 7", Promise11TellTest::wrongBecomes);
        DUE.test("false if the sign is too small", () -> wrongSigns(-1, -2, Integer.MIN_VALUE, Integer.MIN_VALUE + 1));
        DUE.test("false if the sign is too large", () -> wrongSigns(3, 4, 256, Integer.MAX_VALUE - 1, Integer.MAX_VALUE));
        DUE.test("false if both squares are one", Promise11TellTest::bothSquaresAreOne);
        DUE.test("false if its first square is empty", Promise11TellTest::firstSquareEmpty);
        DUE.test("false if something becomes of a man that is no pawn", Promise11TellTest::noPawn);
        DUE.test("false if it was told, with whatever sign", Promise11TellTest::toldBefore);
        DUE.test("what a pawn becomes makes it another move", Promise11TellTest::anotherMove);
        DUE.test("as many as 330: true", Promise11TellTest::asManyAsThereCanBe);
        DUE.test("false if there are 330", Promise11TellTest::oneTooMany);
        DUE.test("it can be told again once it is told no more", Promise11TellTest::toldAgain);
        DUE.test("the text and the position stay", Promise11TellTest::theRestStays);
        DUE.end();
    }

    private static void refused(Game game, String before, int move, int sign) {
        DUE.is("tell(" + move + ", " + sign + ")", game.tell(move, sign), false);
        DUE.is("what is left", game.seen(), before);
    }

    /** On a board with moves told, one that was told first among them. */
    private static void refused(int move, int sign) {
        refused(some(), some().seen(), move, sign);
    }

    private static Game some() {
        Game game = Game.of(RANKS).told("a1a8:1 e7e8Q:2 e1e2").typed("text");
        game.state(1, 2, 3, 4, 5);
        return game;
    }

    private static void told() {
        Game game = Game.of(RANKS);
        String[] moves = {"a1a8", "e1d1", "e7e8", "e8d8", "e2e1"};
        for (int i = 0; i < moves.length; i++) {
            DUE.is("look(6)", game.look(6), i);
            DUE.is("tell " + moves[i], game.tell(Game.move(moves[i]), 0), true);
        }
        DUE.is("look(6)", game.look(6), moves.length);
        String[] spellings = {"Ra8", "Kd1", "e8", "Kd8", "e1"};
        for (int i = 0; i < moves.length; i++) {
            DUE.is("the spelling of " + moves[i], game.spelling(Game.move(moves[i])), spellings[i]);
        }
    }

    private static void becomes() {
        String[] letters = {"", "N", "B", "R", "Q"};
        int[] codes = {0, 2, 3, 4, 5};
        for (String squares : new String[] {"e7e8", "e2e1", "e7d8", "e7e6", "e7a1", "e2h8"}) {
            Game game = Game.of(RANKS);
            for (int i = 0; i < codes.length; i++) {
                int move = Game.move(squares) + 4096 * codes[i];
                DUE.is("tell " + squares + letters[i], game.tell(move, 0), true);
                DUE.is("its spelling's end", game.spelling(move).endsWith(squares.substring(2) + letters[i]), true);
            }
            DUE.is("look(6)", game.look(6), codes.length);
        }
    }

    private static void signs() {
        Game game = Game.of(RANKS);
        String[] spellings = {"Ra2", "Ra3+", "Ra4#"};
        for (int sign = 0; sign <= 2; sign++) {
            int move = Game.move("a1a" + (2 + sign));
            DUE.is("tell with " + sign, game.tell(move, sign), true);
            DUE.is("its spelling", game.spelling(move), spellings[sign]);
        }
    }

    private static void eitherSide() {
        for (int side = 0; side < 2; side++) {
            Game game = Game.of("rnbqkbnr/pppppppp/8/8/8/8/PPPPPPPP/RNBQKBNR");
            game.state(side, 0, Game.NONE, 0, 1);
            for (String move : "a1h8 b1b8 c1c2 d1e1 e1e8 e8e1 a8a1 b8b7 a2h7 a7h2 h7h8".split(" ")) {
                DUE.is("tell " + move, game.tell(Game.move(move), 0), true);
            }
        }
    }

    private static void eachSquare() {
        for (int from = 0; from < 64; from++) {
            Game game = new Game();
            game.put(from, 1 + from % 12);
            for (int to = 0; to < 64; to++) {
                DUE.is("tell(" + from + " + 64 * " + to + ", 0)", game.tell(from + 64 * to, 0), from != to);
            }
            DUE.is("look(6)", game.look(6), 63);
        }
    }

    private static void endsOfTheNumbers() {
        Game low = Game.of("8/8/8/8/8/8/8/PP6");
        DUE.is("tell(1, 0)", low.tell(1, 0), true);
        DUE.is("tell(64, 0)", low.tell(64, 0), true);
        DUE.is("tell(0, 0), both squares being one", low.tell(0, 0), false);
        Game high = Game.of("6PP/8/8/8/8/8/8/8");
        int most = 63 + 64 * 63 + 4096 * 5;
        DUE.is("tell(" + (most - 1) + ", 0)", high.tell(most - 1, 0), true);
        DUE.is("tell(" + (most - 64) + ", 0)", high.tell(most - 64, 0), true);
        DUE.is("tell(" + most + ", 0), both squares being one", high.tell(most, 0), false);
        DUE.is("look(6)", high.look(6), 2);
    }

    private static void negative() {
        int right = Game.move("e7d8");
        for (int move : new int[] {-1, -2, -64, -4096, -24576, right - 4096, right - 8 * 4096, right - 65536, Integer.MIN_VALUE,
            Integer.MIN_VALUE + 1, Integer.MIN_VALUE + right, Integer.MIN_VALUE + right + 2 * 4096, -right}) {
            refused(move, 0);
        }
    }

    private static void tooLarge() {
        int right = Game.move("e7d8");
        for (int move : new int[] {6 * 4096 + right, 7 * 4096 + right, 8 * 4096 + right, 10 * 4096 + right, 16 * 4096 + right,
            18 * 4096 + right, 1 << 24 | right, 1 << 28 | right, 1 << 30 | right, Integer.MAX_VALUE, Integer.MAX_VALUE - 1}) {
            refused(move, 0);
        }
        refused(6 * 4096 + Game.move("a1a2"), 0);
        refused(16 * 4096 + Game.move("a1a2"), 0);
    }

    private static void wrongBecomes() {
        for (String pawn : new String[] {"e7e8", "e7d8", "e2e1", "e2f1"}) {
            for (int becomes : new int[] {1, 6, 7}) {
                refused(Game.move(pawn) + 4096 * becomes, 0);
            }
        }
    }

    private static void wrongSigns(int... signs) {
        for (int sign : signs) {
            refused(Game.move("a1a2"), sign);
            refused(Game.move("a1a8"), sign);
            refused(Game.move("e7e8N"), sign);
        }
    }

    private static void bothSquaresAreOne() {
        for (String move : new String[] {"a1a1", "e1e1", "e8e8", "e7e7", "e7e7Q", "e7e7N", "e2e2", "e2e2R", "b1b1"}) {
            for (int sign = 0; sign <= 2; sign++) {
                refused(Game.move(move), sign);
            }
        }
    }

    private static void firstSquareEmpty() {
        for (String move : new String[] {"b1a1", "b1c1", "h8e8", "h8h7", "d7d8Q", "d7e8N", "e3e2", "a2a1B"}) {
            refused(Game.move(move), 0);
        }
        DUE.is("tell on an empty board", new Game().tell(Game.move("a1a2"), 0), false);
    }

    private static void noPawn() {
        for (int man = 1; man <= 12; man++) {
            for (int becomes = 2; becomes <= 5; becomes++) {
                Game game = new Game();
                game.put(Game.square("e7"), man);
                int move = Game.move("e7e8") + 4096 * becomes;
                DUE.is("tell(" + move + ", 0) of " + man, game.tell(move, 0), man == 1 || man == 7);
                DUE.is("look(6)", game.look(6), man == 1 || man == 7 ? 1 : 0);
            }
        }
        refused(Game.move("a1b1Q"), 0);
        refused(Game.move("e8e7N"), 0);
    }

    private static void toldBefore() {
        for (String move : new String[] {"a1a8", "e7e8Q", "e1e2"}) {
            for (int sign = 0; sign <= 2; sign++) {
                refused(Game.move(move), sign);
            }
        }
    }

    private static void anotherMove() {
        Game game = Game.of(RANKS).told("e7e8Q:1");
        DUE.is("tell e7e8R", game.tell(Game.move("e7e8R"), 1), true);
        DUE.is("tell e7e8", game.tell(Game.move("e7e8"), 1), true);
        DUE.is("tell e7e8Q", game.tell(Game.move("e7e8Q"), 1), false);
        DUE.is("look(6)", game.look(6), 3);
    }

    /** Many moves of men on the first rank, from the first on. */
    private static Game many(int count) {
        Game game = Game.of("8/8/8/8/8/8/8/PNBRQKpn");
        for (int told = 0; told < count; told++) {
            DUE.is("tell of the move behind " + told, game.tell(manyMove(told), told % 3), true);
        }
        return game;
    }

    private static int manyMove(int index) {
        return index % 8 + 64 * (8 + index / 8);
    }

    private static void asManyAsThereCanBe() {
        Game game = many(330);
        DUE.is("look(6)", game.look(6), 330);
        DUE.is("the first one's spelling", game.spelling(manyMove(0)), "a2");
        DUE.is("the last one's spelling", game.spelling(manyMove(329)).startsWith("N"), true);
        DUE.is("the last one found", game.find(), manyMove(329));
    }

    private static void oneTooMany() {
        Game game = many(329);
        DUE.is("tell of the 330th", game.tell(manyMove(329), 0), true);
        DUE.is("tell of one more", game.tell(manyMove(330), 0), false);
        DUE.is("tell of one more", game.tell(manyMove(331), 2), false);
        DUE.is("tell of one that was told", game.tell(manyMove(0), 0), false);
        DUE.is("look(6)", game.look(6), 330);
        DUE.isThrown("spell of one more", IllegalArgumentException.class, () -> game.spell(manyMove(330)));
        DUE.is("the board", game.at(7), 8);
    }

    private static void toldAgain() {
        Game full = many(330);
        full.forget();
        DUE.is("tell behind forget", full.tell(manyMove(330), 0), true);
        DUE.is("tell behind forget", full.tell(manyMove(0), 1), true);
        DUE.is("look(6)", full.look(6), 2);
        DUE.is("the sign is the new one", full.spelling(manyMove(0)), "a2+");
    }

    private static void theRestStays() {
        Game game = some();
        DUE.is("tell", game.tell(Game.move("a1b1"), 0), true);
        DUE.is("the text", game.text(), "text");
        DUE.is("the state", game.state(), "1 2 3 4 5");
        DUE.is("the board", game.board(), some().board());
    }
}
