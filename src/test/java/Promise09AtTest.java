/** Promise 9: at. */
public final class Promise09AtTest {
    private static final Due DUE = new Due("Promise 9, at");

    public static void main(String[] args) {
        DUE.test("what is on a square", Promise09AtTest::whatIsThere);
        DUE.test("0 on an empty square", Promise09AtTest::empty);
        DUE.test("square s has the file s % 8 and the rank s / 8", Promise09AtTest::squares);
        DUE.test("NONE if the square is too small", () -> none(-1, -2, -7, -8, -63, -64, -65, -256));
        DUE.test("NONE if the square is too large", () -> none(64, 65, 71, 72, 127, 128, 256, 4096));
        DUE.test("NONE if the square is far away", () -> none(Game.FAR));
        DUE.test("nothing changes", Promise09AtTest::changesNothing);
        DUE.end();
    }

    private static void whatIsThere() {
        Game game = new Game();
        for (int square = 0; square < 64; square++) {
            game.put(square, 1 + square % 12);
        }
        for (int square = 0; square < 64; square++) {
            DUE.is("at(" + square + ")", game.at(square), 1 + square % 12);
        }
    }

    private static void empty() {
        Game game = new Game();
        game.put(0, 12);
        game.put(63, 12);
        for (int square = 1; square < 63; square++) {
            DUE.is("at(" + square + ")", game.at(square), 0);
        }
    }

    private static void squares() {
        Game game = new Game().typed("k6q/7r/8/8/8/8/P7/KB5N w - - 0 1");
        DUE.is("record()", game.record(), 0);
        int[][] want = {{0, 6}, {1, 3}, {7, 2}, {8, 1}, {55, 10}, {56, 12}, {63, 11}};
        for (int[] pair : want) {
            DUE.is("at(" + pair[0] + ")", game.at(pair[0]), pair[1]);
        }
    }

    private static void none(int... squares) {
        Game full = new Game();
        for (int square = 0; square < 64; square++) {
            full.put(square, 12);
        }
        for (int square : squares) {
            DUE.is("at(" + square + ") of a new object", new Game().at(square), Game.NONE);
            DUE.is("at(" + square + ") of a full board", full.at(square), Game.NONE);
        }
    }

    private static void changesNothing() {
        Game game = Game.sample();
        for (int square : new int[] {0, 63, -1, 64, Integer.MIN_VALUE, Integer.MAX_VALUE}) {
            game.at(square);
        }
        DUE.is("what is left", game.seen(), Game.sample().seen());
    }
}
