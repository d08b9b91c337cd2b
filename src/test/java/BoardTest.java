/** Promises 7 to 10, and of 15 what it says of the state: put, state, at, attacked, look. */
public final class BoardTest {
    private static final Due DUE = new Due();
    private static final int NONE = GameNotation.NONE;

    public static void main(String[] args) {
        putting();
        wrongPuts();
        states();
        wrongStates();
        outside();
        looking();
        attackers();
        blocked();
        edgesOfTheBoard();
        wrongAttacks();
        DUE.end();
    }

    private static void putting() {
        GameNotation game = new GameNotation();
        for (int square = 0; square < 64; square++) {
            for (int man = 0; man <= 12; man++) {
                DUE.is("put(" + square + ", " + man + ")", game.put(square, man), true);
                DUE.is("at(" + square + ")", game.at(square), man);
            }
        }
        DUE.is("at(0)", game.at(0), 12);
        DUE.is("at(63)", game.at(63), 12);
        DUE.is("put(63, 0)", game.put(63, 0), true);
        DUE.is("at(63)", game.at(63), 0);
        DUE.is("at(62)", game.at(62), 12);
        GameNotation told = Due.board("8/8/8/8/8/8/8/4K3");
        told.state(1, 2, 3, 4, 5);
        told.type('x');
        told.tell(Due.move("e1e2"), 0);
        DUE.is("put of what is there", told.put(4, 6), true);
        DUE.is("look(6) behind put", told.look(6), 0);
        int[] kept = {1, 1, 2, 3, 4, 5};
        for (int which = 0; which < kept.length; which++) {
            DUE.is("look(" + which + ") behind put", told.look(which), kept[which]);
        }
    }

    private static void wrongPuts() {
        GameNotation game = Due.board("8/8/8/8/8/8/8/4K3");
        game.tell(Due.move("e1e2"), 0);
        String before = Due.seen(game);
        int[][] wrong = {{-1, 1}, {64, 1}, {0, -1}, {0, 13}, {Integer.MIN_VALUE, 1}, {Integer.MAX_VALUE, 1},
            {0, Integer.MIN_VALUE}, {0, Integer.MAX_VALUE}, {-1, 0}, {64, 0}, {64, 13}};
        for (int[] pair : wrong) {
            DUE.is("put(" + pair[0] + ", " + pair[1] + ")", game.put(pair[0], pair[1]), false);
            DUE.is("what is left behind it", Due.seen(game), before);
        }
    }

    private static void states() {
        GameNotation game = Due.board("8/8/8/8/8/8/8/4K3");
        game.tell(Due.move("e1e2"), 0);
        int[][] right = {{0, 0, NONE, 0, 1}, {1, 15, 7, 999, 9999}, {1, 1, 0, 1, 2}, {0, 8, 3, 50, 40}};
        for (int[] row : right) {
            DUE.is("state", game.state(row[0], row[1], row[2], row[3], row[4]), true);
            for (int which = 1; which <= 5; which++) {
                DUE.is("look(" + which + ")", game.look(which), row[which - 1]);
            }
            DUE.is("look(6) behind state", game.look(6), 1);
            DUE.is("at(4) behind state", game.at(4), 6);
        }
    }

    private static void wrongStates() {
        GameNotation game = new GameNotation();
        game.state(1, 2, 3, 4, 5);
        String before = Due.seen(game);
        int[][] wrong = {{-1, 0, 0, 0, 1}, {2, 0, 0, 0, 1}, {0, -1, 0, 0, 1}, {0, 16, 0, 0, 1}, {0, 0, -2, 0, 1}, {0, 0, 8, 0, 1},
            {0, 0, 0, -1, 1}, {0, 0, 0, 1000, 1}, {0, 0, 0, 0, 0}, {0, 0, 0, 0, 10000}, {0, 0, 0, 0, -1},
            {Integer.MIN_VALUE, 0, 0, 0, 1}, {0, Integer.MAX_VALUE, 0, 0, 1}, {0, 0, Integer.MIN_VALUE, 0, 1},
            {0, 0, 0, Integer.MAX_VALUE, 1}, {0, 0, 0, 0, Integer.MAX_VALUE}};
        for (int[] row : wrong) {
            DUE.is("state " + java.util.Arrays.toString(row), game.state(row[0], row[1], row[2], row[3], row[4]), false);
            DUE.is("what is left behind it", Due.seen(game), before);
        }
    }

    private static void outside() {
        GameNotation game = new GameNotation();
        for (int square : new int[] {-1, 64, 65, -64, Integer.MIN_VALUE, Integer.MAX_VALUE}) {
            DUE.is("at(" + square + ")", game.at(square), NONE);
        }
    }

    private static void looking() {
        GameNotation game = Due.board("8/8/8/8/8/8/8/4K3");
        game.state(1, 12, 6, 34, 567);
        Due.retype(game, "two");
        game.tell(Due.move("e1e2"), 0);
        game.tell(Due.move("e1d2"), 0);
        int[] due = {3, 1, 12, 6, 34, 567, 2};
        for (int which = 0; which < due.length; which++) {
            DUE.is("look(" + which + ")", game.look(which), due[which]);
        }
        for (int which : new int[] {-1, 7, 8, Integer.MIN_VALUE, Integer.MAX_VALUE}) {
            DUE.is("look(" + which + ")", game.look(which), NONE);
        }
    }

    /** The squares that one man alone attacks, on a board that is otherwise empty. */
    private static void attacks(String man, String from, String squares) {
        GameNotation game = new GameNotation();
        int code = "PNBRQKpnbrqk".indexOf(man) + 1;
        game.put(Due.square(from), code);
        int side = code > 6 ? 1 : 0;
        for (int square = 0; square < 64; square++) {
            String name = "" + (char) ('a' + square % 8) + (char) ('1' + square / 8);
            boolean want = (" " + squares + " ").contains(" " + name + " ");
            DUE.is(man + from + " attacks " + name, game.attacked(square, side), want);
            DUE.is(man + from + " attacks for the other side " + name, game.attacked(square, 1 - side), false);
        }
    }

    private static void attackers() {
        attacks("P", "e4", "d5 f5");
        attacks("p", "e4", "d3 f3");
        attacks("N", "e4", "d6 f6 c5 g5 c3 g3 d2 f2");
        attacks("n", "e4", "d6 f6 c5 g5 c3 g3 d2 f2");
        attacks("K", "e4", "d5 e5 f5 d4 f4 d3 e3 f3");
        attacks("k", "e4", "d5 e5 f5 d4 f4 d3 e3 f3");
        String straight = "e1 e2 e3 e5 e6 e7 e8 a4 b4 c4 d4 f4 g4 h4";
        String askew = "a8 b7 c6 d5 f3 g2 h1 b1 c2 d3 f5 g6 h7";
        attacks("R", "e4", straight);
        attacks("r", "e4", straight);
        attacks("B", "e4", askew);
        attacks("b", "e4", askew);
        attacks("Q", "e4", straight + " " + askew);
        attacks("q", "e4", straight + " " + askew);
    }

    private static void edgesOfTheBoard() {
        attacks("P", "a4", "b5");
        attacks("P", "h4", "g5");
        attacks("p", "a4", "b3");
        attacks("p", "h4", "g3");
        attacks("P", "e8", "");
        attacks("p", "e1", "");
        attacks("P", "e1", "d2 f2");
        attacks("p", "e8", "d7 f7");
        attacks("N", "a1", "b3 c2");
        attacks("n", "h8", "g6 f7");
        attacks("N", "h4", "g6 f5 f3 g2");
        attacks("K", "a1", "a2 b1 b2");
        attacks("k", "h8", "h7 g8 g7");
        attacks("K", "a4", "a5 b5 b4 b3 a3");
        attacks("B", "h1", "g2 f3 e4 d5 c6 b7 a8");
        attacks("r", "a1", "a2 a3 a4 a5 a6 a7 a8 b1 c1 d1 e1 f1 g1 h1");
    }

    private static void blocked() {
        GameNotation game = Due.board("8/8/8/8/R2p3r/8/8/b6B");
        DUE.is("a4 attacks c4", game.attacked(Due.square("c4"), 0), true);
        DUE.is("a4 attacks d4, where a man stands", game.attacked(Due.square("d4"), 0), true);
        DUE.is("a4 attacks e4 through d4", game.attacked(Due.square("e4"), 0), true);
        DUE.is("h4 attacks e4", game.attacked(Due.square("e4"), 1), true);
        DUE.is("h4 attacks d4, where its own man stands", game.attacked(Due.square("d4"), 1), true);
        DUE.is("h4 attacks c4 through d4", game.attacked(Due.square("c4"), 1), false);
        DUE.is("a1 attacks e5 through d4", game.attacked(Due.square("e5"), 1), false);
        game.put(Due.square("h1"), 0);
        DUE.is("a4 attacks e4 through d4 with h1 gone", game.attacked(Due.square("e4"), 0), false);
        game.put(Due.square("d4"), 0);
        DUE.is("a4 attacks h4 with nothing between", game.attacked(Due.square("h4"), 0), true);
        DUE.is("a1 attacks h8 with nothing between", game.attacked(Due.square("h8"), 1), true);
        DUE.is("a1 attacks itself", game.attacked(Due.square("a1"), 1), false);
    }

    private static void wrongAttacks() {
        GameNotation game = Due.board("qqqqqqqq/8/8/8/8/8/8/QQQQQQQQ");
        int[][] wrong = {{-1, 0}, {64, 0}, {0, -1}, {0, 2}, {64, 2}, {Integer.MIN_VALUE, 0}, {Integer.MAX_VALUE, 1},
            {0, Integer.MIN_VALUE}, {0, Integer.MAX_VALUE}};
        for (int[] pair : wrong) {
            String call = "attacked(" + pair[0] + ", " + pair[1] + ")";
            DUE.isThrown(call, IndexOutOfBoundsException.class, () -> game.attacked(pair[0], pair[1]));
        }
    }
}
