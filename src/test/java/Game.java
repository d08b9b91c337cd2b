import java.util.ArrayList;
import java.util.List;

/** An object of the class, with shorthands. It allows no call beyond the 512th, as what that answers is free. */
final class Game {
    static final int NONE = GameNotation.NONE;
    static final int[] FAR = {Integer.MIN_VALUE, Integer.MIN_VALUE + 1, Integer.MAX_VALUE - 1, Integer.MAX_VALUE};
    static final String SAMPLE = "q6k/1P6/8/8/8/2N5/8/Q3K2R b Kq f3 66 777";
    private static final int MOST_CALLS = 512;

    private final GameNotation made = new GameNotation();
    private final List<Integer> moves = new ArrayList<>();
    private int calls;

    /** One whose board is that of a record's first field, RIGHT or not. */
    static Game of(String ranks) {
        Game game = new Game();
        int square = 56;
        for (char c : ranks.toCharArray()) {
            if (c == '/') {
                square -= 16;
            } else if (Character.isDigit(c)) {
                square += c - '0';
            } else {
                game.put(square, man(c));
                square++;
            }
        }
        return game;
    }

    /** One that has all that an object can have: men, a state (both as in SAMPLE), six moves of every sign and a text. */
    static Game sample() {
        Game game = of("q6k/1P6/8/8/8/2N5/8/Q3K2R");
        game.state(1, 9, 5, 66, 777);
        game.told("b7b8Q:2 b7a8N a1a8:1 e1g1 c3d5 h8h7:1");
        game.type(part("Qxa8+ "));
        return game;
    }

    static int man(char letter) {
        return "PNBRQKpnbrqk".indexOf(letter) + 1;
    }

    static int square(String name) {
        return name.charAt(0) - 'a' + 8 * (name.charAt(1) - '1');
    }

    static String name(int square) {
        return "" + (char) ('a' + square % 8) + (char) ('1' + square / 8);
    }

    /** A move from its squares and the letter of what a pawn becomes, as in e7e8Q. */
    static int move(String squares) {
        int becomes = squares.length() > 4 ? man(squares.charAt(4)) : 0;
        return square(squares.substring(0, 2)) + 64 * square(squares.substring(2, 4)) + 4096 * becomes;
    }

    /** At most eight characters as the argument of type. */
    static long part(String characters) {
        long part = 0;
        for (char c : characters.toCharArray()) {
            part = part << 8 | c;
        }
        return part;
    }

    /** This one with another text. */
    Game typed(String text) {
        wipe();
        for (int i = 0; i < text.length(); i += 8) {
            if (!type(part(text.substring(i, Math.min(i + 8, text.length()))))) {
                throw new AssertionError("could not type " + text);
            }
        }
        return this;
    }

    /** This one with moves told besides, each as in e7e8Q, with its sign behind a colon if it is not 0. */
    Game told(String written) {
        for (String move : written.split(" ")) {
            String[] parts = move.split(":");
            int sign = parts.length > 1 ? Integer.parseInt(parts[1]) : 0;
            if (!tell(move(parts[0]), sign)) {
                throw new AssertionError("could not tell " + move);
            }
        }
        return this;
    }

    String text() {
        StringBuilder text = new StringBuilder();
        for (int i = 0; i <= 100; i++) {
            int character = text(i);
            if (character == NONE) {
                break;
            }
            text.append((char) character);
        }
        return text.toString();
    }

    /** SIDE, RIGHTS, PASSANT, CLOCK and NUMBER. */
    String state() {
        StringBuilder state = new StringBuilder();
        for (int which = 1; which <= 5; which++) {
            state.append(look(which)).append(' ');
        }
        return state.toString().trim();
    }

    String board() {
        StringBuilder board = new StringBuilder();
        for (int square = 0; square < 64; square++) {
            board.append(at(square)).append(' ');
        }
        return board.toString().trim();
    }

    /** All that can be seen of it; its text is another one then. */
    String seen() {
        return "'" + text() + "' " + look(0) + " | " + seenBesidesText();
    }

    /** All that can be seen of it but its text, which is another one then. */
    String seenBesidesText() {
        return state() + " | " + board() + " | " + seenMoves();
    }

    /** All that can be seen of its moves; its text is another one then. */
    String seenMoves() {
        StringBuilder seen = new StringBuilder().append(look(6));
        for (int move : moves) {
            seen.append(' ').append(spelling(move));
        }
        return seen.toString();
    }

    /** The spelling of a move; its text is that then. */
    String spelling(int move) {
        try {
            spell(move);
            return text();
        } catch (IllegalArgumentException e) {
            return "not told";
        }
    }

    int calls() {
        return calls;
    }

    boolean type(long part) {
        return called().type(part);
    }

    void wipe() {
        called().wipe();
    }

    int text(int i) {
        return called().text(i);
    }

    int record() {
        return called().record();
    }

    int write() {
        return called().write();
    }

    boolean put(int square, int man) {
        return called().put(square, man);
    }

    boolean state(int side, int rights, int passant, int clock, int number) {
        return called().state(side, rights, passant, clock, number);
    }

    int at(int square) {
        return called().at(square);
    }

    boolean attacked(int square, int side) {
        return called().attacked(square, side);
    }

    boolean tell(int move, int sign) {
        boolean answer = called().tell(move, sign);
        if (answer) {
            moves.add(move);
        }
        return answer;
    }

    void forget() {
        called().forget();
    }

    int spell(int move) {
        return called().spell(move);
    }

    int find() {
        return called().find();
    }

    int look(int which) {
        return called().look(which);
    }

    private GameNotation called() {
        calls++;
        if (calls > MOST_CALLS) {
            throw new AssertionError("the test makes more than " + MOST_CALLS + " calls on one object");
        }
        return made;
    }
}
