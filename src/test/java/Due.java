/** Compares answers with those that are due, prints each that differs, and ends the test. */
final class Due {
    private int wrong;

    /** A call that is expected to throw. */
    interface Call {
        void make();
    }

    void is(String call, long got, long want) {
        if (got != want) {
            wrong++;
            System.out.println(call + " answered " + got + ", due is " + want);
        }
    }

    void is(String call, boolean got, boolean want) {
        if (got != want) {
            wrong++;
            System.out.println(call + " answered " + got + ", due is " + want);
        }
    }

    void is(String call, String got, String want) {
        if (!got.equals(want)) {
            wrong++;
            System.out.println(call + " answered '" + got + "', due is '" + want + "'");
        }
    }

    void isThrown(String call, Class<?> want, Call made) {
        String got = "nothing";
        try {
            made.make();
        } catch (RuntimeException e) {
            got = e.getClass().getName();
        }
        is(call + " throws", got, want.getName());
    }

    void end() {
        if (wrong != 0) {
            System.out.println(wrong + " answers are not as due");
            System.exit(1);
        }
    }

    /** The text replaced by another one, by calls of wipe and type. */
    static void retype(GameNotation game, String text) {
        game.wipe();
        for (int i = 0; i < text.length(); i += 8) {
            if (!game.type(part(text.substring(i, Math.min(i + 8, text.length()))))) {
                throw new IllegalStateException("could not type " + text);
            }
        }
    }

    /** At most eight characters as the argument of type. */
    static long part(String characters) {
        long part = 0;
        for (char c : characters.toCharArray()) {
            part = part << 8 | c;
        }
        return part;
    }

    static String textOf(GameNotation game) {
        StringBuilder text = new StringBuilder();
        for (int i = 0; game.text(i) != GameNotation.NONE; i++) {
            text.append((char) game.text(i));
        }
        return text.toString();
    }

    /** All that can be seen of an object but its told moves' spellings. */
    static String seen(GameNotation game) {
        StringBuilder seen = new StringBuilder(textOf(game));
        for (int which = 0; which < 7; which++) {
            seen.append(' ').append(game.look(which));
        }
        for (int square = 0; square < 64; square++) {
            seen.append(' ').append(game.at(square));
        }
        return seen.toString();
    }

    static int square(String name) {
        return name.charAt(0) - 'a' + 8 * (name.charAt(1) - '1');
    }

    /** A move from its squares and the letter of what a pawn becomes, as in e7e8Q. */
    static int move(String squares) {
        int becomes = squares.length() > 4 ? "PNBRQ".indexOf(squares.charAt(4)) + 1 : 0;
        return square(squares.substring(0, 2)) + 64 * square(squares.substring(2, 4)) + 4096 * becomes;
    }

    /** An object whose board is that of a record's first field, RIGHT or not. */
    static GameNotation board(String ranks) {
        GameNotation game = new GameNotation();
        int square = 56;
        for (char c : ranks.toCharArray()) {
            if (c == '/') {
                square -= 16;
            } else if (Character.isDigit(c)) {
                square += c - '0';
            } else {
                game.put(square, "PNBRQKpnbrqk".indexOf(c) + 1);
                square++;
            }
        }
        return game;
    }
}
