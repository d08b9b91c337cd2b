import java.util.Set;
import java.util.TreeSet;

/** Promise 10: attacked. */
public final class Promise10AttackedTest {
    private static final Due DUE = new Due("Promise 10, attacked");
    private static final String MEN = "PNBRQKpnbrqk";

    public static void main(String[] args) {
        DUE.test("by a knight", () -> both("N", "e4", "d6 f6 c5 g5 c3 g3 d2 f2"));
        DUE.test("by a king beside it", () -> both("K", "e4", "d5 e5 f5 d4 f4 d3 e3 f3"));
        DUE.test("by a white pawn on the rank below it", () -> attacks("P", "e4", "d5 f5"));
        DUE.test("by a black pawn on the rank above it", () -> attacks("p", "e4", "d3 f3"));
        DUE.test("askew by a bishop", () -> both("B", "e4", "a8 b7 c6 d5 f3 g2 h1 b1 c2 d3 f5 g6 h7"));
        DUE.test("straight by a rook", () -> both("R", "e4", "e1 e2 e3 e5 e6 e7 e8 a4 b4 c4 d4 f4 g4 h4"));
        DUE.test("askew and straight by a queen", () -> both("Q", "e4",
                "a8 b7 c6 d5 f3 g2 h1 b1 c2 d3 f5 g6 h7 e1 e2 e3 e5 e6 e7 e8 a4 b4 c4 d4 f4 g4 h4"));
        DUE.test("each man from each square, with no wrap-around at an edge", Promise10AttackedTest::eachManFromEachSquare);
        DUE.test("from the corners", Promise10AttackedTest::corners);
        DUE.test("pawns on the first, the eighth and the edge files", Promise10AttackedTest::pawnsAtTheEdges);
        DUE.test("not with something between, whatever it is", Promise10AttackedTest::between);
        DUE.test("knights are not kept off by what is between", Promise10AttackedTest::knightsPass);
        DUE.test("what stands on it does not matter", Promise10AttackedTest::whatStandsOnIt);
        DUE.test("no man attacks its own square", Promise10AttackedTest::ownSquare);
        DUE.test("by men of the side alone", Promise10AttackedTest::sideAlone);
        DUE.test("the SIDE to move does not matter", Promise10AttackedTest::sideToMove);
        DUE.test("IndexOutOfBoundsException if the square is too small", () -> refused(new int[] {-1, -2, -8, -64}, new int[] {0, 1}));
        DUE.test("IndexOutOfBoundsException if the square is too large", () -> refused(new int[] {64, 65, 72, 128}, new int[] {0, 1}));
        DUE.test("IndexOutOfBoundsException if the square is far away", () -> refused(Game.FAR, new int[] {0, 1}));
        DUE.test("IndexOutOfBoundsException if the side is too small", () -> refused(new int[] {0, 28, 63}, new int[] {-1, -2}));
        DUE.test("IndexOutOfBoundsException if the side is too large", () -> refused(new int[] {0, 28, 63}, new int[] {2, 3, 256}));
        DUE.test("IndexOutOfBoundsException if the side is far away", () -> refused(new int[] {0, 28, 63}, Game.FAR));
        DUE.test("IndexOutOfBoundsException if there is neither", () -> refused(new int[] {-1, 64}, new int[] {-1, 2}));
        DUE.test("an answer changes nothing", Promise10AttackedTest::changesNothing);
        DUE.end();
    }

    /** The squares that one man alone attacks, on a board that is otherwise empty. */
    private static void attacks(String man, String from, String squares) {
        Game game = new Game();
        int side = MEN.indexOf(man) / 6;
        game.put(Game.square(from), MEN.indexOf(man) + 1);
        for (int square = 0; square < 64; square++) {
            boolean want = (" " + squares + " ").contains(" " + Game.name(square) + " ");
            DUE.is(man + from + " attacks " + Game.name(square), game.attacked(square, side), want);
            DUE.is(man + from + " attacks for the other side " + Game.name(square), game.attacked(square, 1 - side), false);
        }
    }

    private static void both(String man, String from, String squares) {
        attacks(man, from, squares);
        attacks(man.toLowerCase(), from, squares);
    }

    private static void eachManFromEachSquare() {
        for (int i = 0; i < 12; i++) {
            for (int from = 0; from < 64; from++) {
                attacks(MEN.substring(i, i + 1), Game.name(from), String.join(" ", reached(i, from)));
            }
        }
    }

    private static Set<String> reached(int man, int from) {
        Set<String> reached = new TreeSet<>();
        for (int to = 0; to < 64; to++) {
            int files = Math.abs(to % 8 - from % 8);
            int ranks = Math.abs(to / 8 - from / 8);
            boolean straight = (files == 0) != (ranks == 0);
            boolean askew = files == ranks && files > 0;
            boolean ahead = to / 8 - from / 8 == (man < 6 ? 1 : -1);
            boolean[] kinds = {files == 1 && ahead, files * ranks == 2, askew, straight, askew || straight,
                Math.max(files, ranks) == 1};
            if (kinds[man % 6]) {
                reached.add(Game.name(to));
            }
        }
        return reached;
    }

    private static void corners() {
        both("N", "a1", "b3 c2");
        both("N", "h1", "g3 f2");
        both("N", "a8", "b6 c7");
        both("N", "h8", "g6 f7");
        both("K", "a1", "a2 b1 b2");
        both("K", "h8", "h7 g8 g7");
        both("B", "h1", "g2 f3 e4 d5 c6 b7 a8");
        both("R", "a1", "a2 a3 a4 a5 a6 a7 a8 b1 c1 d1 e1 f1 g1 h1");
    }

    private static void pawnsAtTheEdges() {
        attacks("P", "a4", "b5");
        attacks("P", "h4", "g5");
        attacks("p", "a4", "b3");
        attacks("p", "h4", "g3");
        attacks("P", "e8", "");
        attacks("p", "e1", "");
        attacks("P", "e1", "d2 f2");
        attacks("p", "e8", "d7 f7");
    }

    private static void lines(String ranks, int side, String attacked, String not) {
        Game game = Game.of(ranks);
        for (String square : attacked.split(" ")) {
            DUE.is(ranks + " attacks " + square, game.attacked(Game.square(square), side), true);
        }
        for (String square : not.split(" ")) {
            DUE.is(ranks + " attacks " + square, game.attacked(Game.square(square), side), false);
        }
    }

    private static void between() {
        for (char man : "pnbrqk".toCharArray()) {
            lines("8/8/8/8/R2" + man + "4/8/8/8", 0, "b4 c4 d4", "e4 f4 g4 h4");
            lines("8/8/8/8/4" + man + "2R/8/8/8", 0, "e4 f4 g4", "a4 b4 c4 d4");
            lines("3R4/8/8/3" + man + "4/8/8/8/8", 0, "d7 d6 d5", "d4 d3 d2 d1");
            lines("8/8/8/3" + man + "4/8/8/8/3R4", 0, "d2 d3 d4 d5", "d6 d7 d8");
            lines("8/8/8/8/3" + man + "4/8/8/B7", 0, "b2 c3 d4", "e5 f6 g7 h8");
            lines("7Q/8/8/8/3" + man + "4/8/8/8", 0, "g7 f6 e5 d4", "c3 b2 a1");
            lines("q7/8/8/3" + Character.toUpperCase(man) + "4/8/8/8/8", 1, "b7 c6 d5", "e4 f3 g2 h1");
            lines("8/8/8/8/4" + Character.toUpperCase(man) + "3/8/8/7b", 1, "g2 f3 e4", "d5 c6 b7 a8");
        }
        lines("8/8/8/8/RN6/8/8/8", 0, "b4", "c4 h4");
        lines("8/8/8/8/R7/8/8/8", 0, "b4 h4 a1 a8", "a4 b5");
    }

    private static void knightsPass() {
        Game game = Game.of("8/8/2ppp3/2pNp3/2ppp3/8/8/8");
        for (String square : "b4 b6 c3 c7 e3 e7 f4 f6".split(" ")) {
            DUE.is("d5 attacks " + square, game.attacked(Game.square(square), 0), true);
        }
    }

    private static void whatStandsOnIt() {
        String[][] attackers = {{"8/8/8/8/8/8/8/3R4", "d4"}, {"8/8/8/8/8/2P5/8/8", "d4"}, {"8/8/8/8/B7/8/8/8", "e8"},
            {"8/2N5/8/8/8/8/8/8", "d5"}, {"8/8/8/8/8/3K4/8/8", "d4"}, {"8/8/8/8/3Q4/8/8/8", "d7"}};
        for (String[] pair : attackers) {
            for (int man = 0; man <= 12; man++) {
                Game game = Game.of(pair[0]);
                game.put(Game.square(pair[1]), man);
                DUE.is(pair[0] + " attacks where " + man + " stands", game.attacked(Game.square(pair[1]), 0), true);
            }
        }
        Game quiet = new Game();
        for (int man = 0; man <= 12; man++) {
            quiet.put(28, man);
            DUE.is("nothing attacks where " + man + " stands", quiet.attacked(28, 0) || quiet.attacked(28, 1), false);
        }
    }

    private static void ownSquare() {
        for (int man = 1; man <= 12; man++) {
            for (int square : new int[] {0, 7, 28, 56, 63}) {
                Game game = new Game();
                game.put(square, man);
                DUE.is("attacked(" + square + ", 0)", game.attacked(square, 0), false);
                DUE.is("attacked(" + square + ", 1)", game.attacked(square, 1), false);
            }
        }
    }

    private static void sideAlone() {
        Game game = Game.of("r7/8/8/8/8/8/8/7B");
        DUE.is("attacked(a1, 1)", game.attacked(Game.square("a1"), 1), true);
        DUE.is("attacked(a1, 0)", game.attacked(Game.square("a1"), 0), false);
        DUE.is("attacked(g2, 0)", game.attacked(Game.square("g2"), 0), true);
        DUE.is("attacked(g2, 1)", game.attacked(Game.square("g2"), 1), false);
        DUE.is("attacked(a8, 0)", game.attacked(Game.square("a8"), 0), true);
        DUE.is("attacked(h1, 1)", game.attacked(Game.square("h1"), 1), false);
    }

    private static void sideToMove() {
        for (int side = 0; side < 2; side++) {
            Game game = Game.of("4r3/8/8/8/8/8/8/3R4");
            game.state(side, 0, Game.NONE, 0, 1);
            DUE.is("attacked(d4, 0)", game.attacked(Game.square("d4"), 0), true);
            DUE.is("attacked(d4, 1)", game.attacked(Game.square("d4"), 1), false);
            DUE.is("attacked(e4, 1)", game.attacked(Game.square("e4"), 1), true);
        }
    }

    private static void refused(int[] squares, int[] sides) {
        for (int square : squares) {
            for (int side : sides) {
                Game game = Game.sample();
                String call = "attacked(" + square + ", " + side + ")";
                DUE.isThrown(call, IndexOutOfBoundsException.class, () -> game.attacked(square, side));
                DUE.is("what is left", game.seen(), Game.sample().seen());
            }
        }
    }

    private static void changesNothing() {
        Game game = Game.sample();
        for (int square = 0; square < 64; square++) {
            game.attacked(square, square % 2);
        }
        DUE.is("what is left", game.seen(), Game.sample().seen());
    }
}
