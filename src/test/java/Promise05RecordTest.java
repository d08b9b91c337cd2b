/** Promise 5: record. */
public final class Promise05RecordTest {
    private static final Due DUE = new Due("Promise 5, record");
    private static final String KINGS = "4k3/8/8/8/8/8/8/4K3";
    private static final String CORNERS = "r3k2r/8/8/8/8/8/8/R3K2R";
    private static final String START = "rnbqkbnr/pppppppp/8/8/8/8/PPPPPPPP/RNBQKBNR";

    public static void main(String[] args) {
        reading();
        firstField();
        secondField();
        thirdField();
        fourthField();
        fifthField();
        sixthField();
        kings();
        men();
        castling();
        passant();
        attackedKing();
        firstOfSeveral();
        refused();
        DUE.end();
    }

    /** The answer, that the text stays, and that a position that was read is that of the record. */
    private static void answers(int fault, String text) {
        Game game = new Game().typed(text);
        DUE.is("record() of '" + text + "'", game.record(), fault);
        DUE.is("the text behind record()", game.text(), text);
        if (fault == 0) {
            game.write();
            DUE.is("the record that is written then", game.text(), text);
        }
    }

    private static void all(int fault, String ahead, String behind, String... parts) {
        for (String part : parts) {
            answers(fault, ahead + part + behind);
        }
    }

    private static void reading() {
        DUE.test("0, and the position is that", Promise05RecordTest::positionRead);
        DUE.test("nothing of the former position stays", Promise05RecordTest::formerPositionGone);
        DUE.test("no moves are told then", Promise05RecordTest::noMovesThen);
        DUE.test("the text stays, and can be read again", Promise05RecordTest::readAgain);
        DUE.test("an empty text: 1", () -> answers(1, ""));
        DUE.test("a full text: the first field that is not as said", Promise05RecordTest::fullText);
        DUE.test("the first position of a game", () -> all(0, START, " KQkq - 0 1", " w", " b"));
    }

    private static void positionRead() {
        String text = "r3k1n1/8/8/1p5b/2P5/8/Q7/4KB1R b Kq c3 0 77";
        Game game = new Game().typed(text);
        DUE.is("record()", game.record(), 0);
        DUE.is("the state", game.state(), "1 9 2 0 77");
        DUE.is("the text", game.text(), text);
        String men = "e1K f1B h1R a2Q c4P b5p h5b a8r e8k g8n ";
        for (int square = 0; square < 64; square++) {
            int place = men.indexOf(Game.name(square));
            DUE.is("at(" + square + ")", game.at(square), place < 0 ? 0 : Game.man(men.charAt(place + 2)));
        }
    }

    private static void formerPositionGone() {
        Game game = Game.of("qqqqqqqq/qqqqqqqq/qqqqqqqq/qqqqqqqq/qqqqqqqq/qqqqqqqq/qqqqqqqq/qqqqqqqq");
        game.state(1, 15, 7, 999, 9999);
        game.typed(KINGS + " w - - 0 1");
        DUE.is("record()", game.record(), 0);
        DUE.is("the state", game.state(), "0 0 -1 0 1");
        game.write();
        DUE.is("the record", game.text(), KINGS + " w - - 0 1");
        String other = "k7/8/8/8/8/8/p7/7K b - - 3 4";
        DUE.is("record() of another", game.typed(other).record(), 0);
        DUE.is("the state", game.state(), "1 0 -1 3 4");
        game.write();
        DUE.is("the record", game.text(), other);
    }

    private static void noMovesThen() {
        Game game = Game.of(KINGS).told("e1e2:1 e8e7 e1g1").typed(KINGS + " w - - 0 1");
        DUE.is("look(6) before", game.look(6), 3);
        DUE.is("record() of the position that is", game.record(), 0);
        DUE.is("look(6)", game.look(6), 0);
        DUE.isThrown("spell", IllegalArgumentException.class, () -> game.spell(Game.move("e1e2")));
        DUE.is("find()", game.typed("Ke2+").find(), -2);
        DUE.is("tell", game.tell(Game.move("e1e2"), 0), true);
        DUE.is("find()", game.typed("Ke2").find(), Game.move("e1e2"));
    }

    private static void readAgain() {
        Game game = new Game().typed(START + " w KQkq - 0 1");
        for (int turn = 0; turn < 3; turn++) {
            DUE.is("record()", game.record(), 0);
            DUE.is("the text", game.text(), START + " w KQkq - 0 1");
            game.put(0, 0);
        }
    }

    private static void fullText() {
        answers(1, "8".repeat(100));
        answers(1, "p".repeat(100));
        answers(1, "8/".repeat(50));
        answers(1, " ".repeat(100));
        answers(5, KINGS + " w - - " + "9".repeat(74));
        answers(5, KINGS + " w - - " + "0".repeat(74));
        answers(6, KINGS + " w - - 0 " + "1".repeat(72));
        answers(6, KINGS + " w - - 0 1" + " ".repeat(71));
    }

    private static void firstField() {
        String rest = " w - - 0 1";
        DUE.test("1: empty", () -> all(1, "", "", " ", " w", rest, " " + KINGS + rest));
        DUE.test("1: no blank stands behind it, but the end", () -> all(1, "", "", KINGS, START, "8/8/8/8/8/8/8/8"));
        DUE.test("1: no blank stands behind it, but something else",
                () -> all(1, KINGS, "w - - 0 1", "", "/", "_", "-", "x", "1", "P"));
        DUE.test("1: fewer than eight ranks", () -> all(1, "", rest, "4k3/8/8/8/8/8/4K3", "4k3/4K3", "8", "k6K"));
        DUE.test("1: more than eight ranks", () -> all(1, "", rest, KINGS + "/8", "8/" + KINGS, KINGS + "/", "/" + KINGS));
        DUE.test("1: a rank that is empty", () -> all(1, "", rest, "4k3//8/8/8/8/8/4K3", "/8/8/8/8/8/k7/4K3", "4k3/8/8/8/8/8/K7/"));
        DUE.test("1: ranks not parted by /", () -> all(1, "4k3/8", "8/8/8/8/8/4K3" + rest, "", "\\", "-", ".", " ", "|", "0", "//"));
        DUE.test("1: a rank of fewer than eight squares", Promise05RecordTest::shortRanks);
        DUE.test("1: a rank of more than eight squares", Promise05RecordTest::longRanks);
        DUE.test("1: two digits side by side", Promise05RecordTest::digitsSideBySide);
        DUE.test("1: the digits 0 and 9", Promise05RecordTest::wrongDigits);
        DUE.test("1: a letter that is no man's", Promise05RecordTest::wrongLetters);
        DUE.test("each digit 1 .. 8", Promise05RecordTest::rightDigits);
        DUE.test("each letter for a man", () -> answers(0, "k1nbrq2/p7/8/8/8/8/P7/K1NBRQ2 w - - 0 1"));
    }

    private static String withRank(int number, String rank) {
        String[] ranks = {"4k3", "8", "8", "8", "8", "8", "8", "4K3"};
        ranks[number] = rank;
        return String.join("/", ranks) + " w - - 0 1";
    }

    private static void eachRank(int fault, String... ranks) {
        for (int number = 0; number < 8; number++) {
            for (String rank : ranks) {
                answers(fault, withRank(number, rank));
            }
        }
    }

    private static void shortRanks() {
        eachRank(1, "7", "1", "4n2", "n6", "6n", "nnnnnnn", "1n1n1n1", "3n3");
    }

    private static void longRanks() {
        eachRank(1, "8n", "n8", "5n3", "3n5", "nnnnnnnnn", "1n1n1n1n1", "n1n1n1n1n", "7n1", "1n7", "nnnnnnn2", "8888");
    }

    private static void digitsSideBySide() {
        eachRank(1, "44", "17", "71", "11111111", "n16", "n61", "61n", "16n", "3n22", "22n3", "n33n", "12n4");
        answers(0, "4k3/8/8/8/8/8/3n4/4K3 w - - 0 1");
    }

    private static void wrongDigits() {
        eachRank(1, "0", "9", "08", "80", "8n0", "n07", "n70", "0n7", "n0nnnnnnn", "7n0", "9n", "n9");
    }

    private static void wrongLetters() {
        for (char letter = 32; letter < 127; letter++) {
            if ("PNBRQKpnbrqk12345678".indexOf(letter) < 0) {
                all(1, "4k3/8/8/8/", "/8/8/4K3 w - - 0 1", "3" + letter + "4", letter + "7", "7" + letter, "" + letter);
            }
        }
    }

    private static void rightDigits() {
        for (int empty = 1; empty <= 5; empty++) {
            answers(0, "k" + empty + "q" + (6 - empty) + "/8/8/8/8/8/8/K7 w - - 0 1");
        }
        answers(0, "k6q/8/8/8/8/8/8/K7 w - - 0 1");
        answers(0, "1k6/8/8/8/8/8/8/7K w - - 0 1");
    }

    private static void secondField() {
        DUE.test("2: empty", () -> all(2, KINGS, "", " ", "  ", "  w - - 0 1", "  - - 0 1"));
        DUE.test("2: no blank stands behind it, but the end", () -> all(2, KINGS, "", " w", " b"));
        DUE.test("2: no blank stands behind it, but something else",
                () -> all(2, KINGS, "- - 0 1", " wb", " bw", " ww", " bb", " w-", " w/", " b0", " w"));
        DUE.test("2: neither w nor b", Promise05RecordTest::wrongSides);
        DUE.test("w is white, b is black", Promise05RecordTest::sides);
    }

    private static void wrongSides() {
        for (char letter = 33; letter < 127; letter++) {
            if (letter != 'w' && letter != 'b') {
                answers(2, KINGS + " " + letter + " - - 0 1");
            }
        }
    }

    private static void sides() {
        Game game = new Game().typed(KINGS + " b - - 0 1");
        DUE.is("record()", game.record(), 0);
        DUE.is("look(1)", game.look(1), 1);
        DUE.is("record()", game.typed(KINGS + " w - - 0 1").record(), 0);
        DUE.is("look(1)", game.look(1), 0);
    }

    private static void thirdField() {
        DUE.test("3: empty", () -> all(3, KINGS, "", " w ", " w  ", " b  - 0 1", " w  - - 0 1"));
        DUE.test("3: no blank stands behind it, but the end", () -> all(3, CORNERS, "", " w -", " w K", " b KQkq", " w q"));
        DUE.test("3: no blank stands behind it, but something else",
                () -> all(3, CORNERS, " - 0 1", " w -K", " w K-", " w --", " w KQkqx", " w KQkq-", " w K0", " w -/", " w q_"));
        DUE.test("3: one of them twice", () -> all(3, CORNERS + " w ", " - 0 1", "KK", "QQ", "kk", "qq", "KQK", "KQkqK", "KQkqq"));
        DUE.test("3: not in this order",
                () -> all(3, CORNERS + " w ", " - 0 1", "QK", "kK", "qK", "kQ", "qQ", "qk", "KkQ", "QKkq", "KQqk", "kqKQ"));
        DUE.test("3: another letter", Promise05RecordTest::wrongRights);
        DUE.test("- and each choice of K, Q, k, q in this order", Promise05RecordTest::eachRights);
    }

    private static void wrongRights() {
        for (char letter = 33; letter < 127; letter++) {
            if ("-KQkq".indexOf(letter) < 0) {
                all(3, CORNERS + " w ", " - 0 1", "" + letter, "K" + letter, letter + "q");
            }
        }
    }

    private static void eachRights() {
        for (int rights = 0; rights < 16; rights++) {
            StringBuilder letters = new StringBuilder(rights == 0 ? "-" : "");
            for (int i = 0; i < 4; i++) {
                letters.append((rights >> i & 1) != 0 ? "KQkq".substring(i, i + 1) : "");
            }
            Game game = new Game().typed(CORNERS + " w " + letters + " - 0 1");
            DUE.is("record() with " + letters, game.record(), 0);
            DUE.is("look(2) with " + letters, game.look(2), rights);
        }
    }

    private static void fourthField() {
        DUE.test("4: empty", () -> all(4, KINGS, "", " w - ", " w -  ", " w -  0 1", " w -  - 0 1"));
        DUE.test("4: no blank stands behind it, but the end", () -> all(4, KINGS, "", " w - -", " w - e6", " b - e3"));
        DUE.test("4: no blank stands behind it, but something else",
                () -> all(4, KINGS + " w - ", " 0 1", "--", "-e6", "e6-", "e66", "e6e6", "-0", "e6/", "a6b6"));
        DUE.test("4: a file alone, or a rank alone", () -> all(4, KINGS + " w - ", " 0 1", "e", "6", "h", "3"));
        DUE.test("4: the rank ahead of the file", () -> all(4, KINGS, " 0 1", " w - 6e", " b - 3e"));
        DUE.test("4: not 6, if white is to move", () -> wrongPassants('w', '6'));
        DUE.test("4: not 3, if black is to move", () -> wrongPassants('b', '3'));
        DUE.test("4: no such file", Promise05RecordTest::wrongFiles);
        DUE.test("- and each file, white to move", () -> eachPassant("4k3/8/8/", "/8/8/8/4K3 w - ", 'p', '6'));
        DUE.test("- and each file, black to move", () -> eachPassant("4k3/8/8/8/", "/8/8/4K3 b - ", 'P', '3'));
    }

    private static void wrongPassants(char side, char right) {
        for (char rank = 33; rank < 127; rank++) {
            if (rank != right) {
                answers(4, "4k3/8/8/4p3/4P3/8/8/4K3 " + side + " - e" + rank + " 0 1");
            }
        }
    }

    private static void wrongFiles() {
        for (char file = 33; file < 127; file++) {
            if (file < 'a' || file > 'h') {
                answers(4, KINGS + " w - " + file + "6 0 1");
                answers(4, KINGS + " b - " + file + "3 0 1");
            }
        }
    }

    private static void eachPassant(String ahead, String behind, char pawn, char passantRank) {
        for (int file = 0; file < 8; file++) {
            String board = ahead + rank(file, pawn, file, pawn) + behind;
            String text = board + (char) ('a' + file) + passantRank + " 0 1";
            Game game = new Game().typed(text);
            DUE.is("record() of '" + text + "'", game.record(), 0);
            DUE.is("look(3)", game.look(3), file);
            DUE.is("record() with -", game.typed(board + "- 0 1").record(), 0);
            DUE.is("look(3)", game.look(3), Game.NONE);
        }
    }

    private static void fifthField() {
        DUE.test("5: empty", () -> all(5, KINGS, "", " w - - ", " w - -  ", " w - -  1", " w - -  0 1"));
        DUE.test("5: no blank stands behind it, but the end", () -> all(5, KINGS, "", " w - - 0", " w - - 5", " w - - 999"));
        DUE.test("5: no blank stands behind it, but something else",
                () -> all(5, KINGS + " w - - ", " 1", "0-", "1x", "10/", "99.", "0+", "5_5"));
        DUE.test("5: a 0 ahead", () -> all(5, KINGS + " w - - ", " 1", "00", "01", "09", "000", "010", "0999", "0000", "00000", "000001"));
        DUE.test("5: more than 999", () -> all(5, KINGS + " w - - ", " 1", "1000", "1001", "9999", "10000", "99999", "100000"));
        DUE.test("5: more than an int or a long can hold",
                () -> all(5, KINGS + " w - - ", " 1", "2147483648", "4294967296", "4294967297", "18446744073709551616", "9".repeat(40)));
        DUE.test("5: no digits", () -> all(5, KINGS + " w - - ", " 1", "-", "-1", "+1", "x", "-0", "a", "O", "/", ":"));
        DUE.test("0 .. 999", () -> numbers("CLOCK", 0, 999));
    }

    private static void sixthField() {
        DUE.test("6: empty", () -> all(6, KINGS, "", " w - - 0 ", " w - - 0  ", " w - - 0  1", " w - - 999  1"));
        DUE.test("6: behind it not the end, but a blank", () -> all(6, KINGS + " w - - 0 ", "", "1 ", "1  ", "9999 ", "1 1", "1 w"));
        DUE.test("6: behind it not the end, but something else", () -> all(6, KINGS + " w - - 0 ", "", "1x", "1-", "1/", "12:", "1+"));
        DUE.test("6: a 0 ahead", () -> all(6, KINGS + " w - - 0 ", "", "01", "00", "09999", "001", "0001", "00001", "000001"));
        DUE.test("6: less than 1", () -> all(6, KINGS + " w - - 0 ", "", "0", "-1", "-0", "-9999"));
        DUE.test("6: more than 9999", () -> all(6, KINGS + " w - - 0 ", "", "10000", "10001", "99999", "100000", "999999"));
        DUE.test("6: more than an int or a long can hold",
                () -> all(6, KINGS + " w - - 0 ", "", "2147483648", "4294967297", "18446744073709551617", "9".repeat(40)));
        DUE.test("6: no digits", () -> all(6, KINGS + " w - - 0 ", "", "-", "+1", "x", "a1", "I", "/", ":"));
        DUE.test("1 .. 9999", () -> numbers("NUMBER", 1, 9999));
    }

    private static void numbers(String which, int least, int most) {
        boolean clock = which.equals("CLOCK");
        for (int number = least; number <= most; number++) {
            Game game = new Game().typed(KINGS + " w - - " + (clock ? number + " 1" : "0 " + number));
            DUE.is("record() with " + which + " " + number, game.record(), 0);
            DUE.is("look of " + which, game.look(clock ? 4 : 5), number);
        }
    }

    private static void kings() {
        String rest = " w - - 0 1";
        DUE.test("7: no king at all", () -> all(7, "", rest, "8/8/8/8/8/8/8/8", "3q4/8/8/8/8/8/8/3Q4"));
        DUE.test("7: no king of white", () -> all(7, "", rest, "4k3/8/8/8/8/8/8/8", "4k3/8/8/8/8/8/8/4Q3"));
        DUE.test("7: no king of black", () -> all(7, "", rest, "8/8/8/8/8/8/8/4K3", "4q3/8/8/8/8/8/8/4K3"));
        DUE.test("7: two kings of white", () -> all(7, "", rest, "4k3/8/8/8/8/8/8/2K1K3", "K3k3/8/8/8/8/8/8/7K", "8/8/8/8/8/8/8/2K1K3"));
        DUE.test("7: two kings of black", () -> all(7, "", rest, "2k1k3/8/8/8/8/8/8/4K3", "k7/8/8/8/8/8/8/K6k", "2k1k3/8/8/8/8/8/8/8"));
        DUE.test("7: nothing but kings", () -> all(7, "", rest, "kkkkkkkk/8/8/8/8/8/8/KKKKKKKK"));
        DUE.test("one king of each side, on each corner", () -> all(0, "", rest, "k6K/8/8/8/8/8/8/8", "8/8/8/8/8/8/8/K6k", "k7/8/8/8/8/8/8/7K"));
    }

    private static void men() {
        String rest = " w - - 0 1";
        DUE.test("8: a pawn on the first rank", () -> pawnsOn("4k3/8/8/8/8/8/8/", 'K', ""));
        DUE.test("8: a pawn on the eighth rank", () -> pawnsOn("", 'k', "/8/8/8/8/8/8/4K3"));
        DUE.test("pawns on the second and seventh rank",
                () -> all(0, "", rest, "4k3/P5p1/8/8/8/8/p5P1/4K3", "4k3/7P/7p/8/8/7P/7p/4K3"));
        DUE.test("8: more than 8 pawns of white", () -> all(8, "4k3/8/8/8/8/", rest, "P7/PPPPPPPP/4K3", "PPPPPPPP/PPPPPPPP/4K3"));
        DUE.test("8: more than 8 pawns of black", () -> all(8, "4k3/", rest, "pppppppp/p7/8/8/8/8/4K3", "pppppppp/pppppppp/8/8/8/8/4K3"));
        DUE.test("8 pawns and all other men of each side", () -> answers(0, START + " w - - 0 1"));
        for (String man : new String[] {"N", "B", "R", "Q"}) {
            DUE.test("8: one more " + man + " with 8 pawns; as many with 7", () -> oneMore(man));
            DUE.test("8: with no pawns 8 more " + man + ", not 9", () -> nineMore(man));
        }
        DUE.test("8: what is above is counted together", Promise05RecordTest::countedTogether);
        DUE.test("8: fewer of one kind do not allow more of another", Promise05RecordTest::fewerDoNotCount);
        DUE.test("8: pawns of one side do not count for the other", Promise05RecordTest::sidesApart);
    }

    private static void pawnsOn(String ahead, char king, String behind) {
        for (char pawn : new char[] {'P', 'p'}) {
            for (int file = 0; file < 8; file++) {
                answers(8, ahead + rank(file, pawn, file == 4 ? 0 : 4, king) + behind + " w - - 0 1");
            }
        }
    }

    /** A rank with two men, each behind its file. */
    private static String rank(int file, char man, int otherFile, char other) {
        char[] squares = "........".toCharArray();
        squares[file] = man;
        squares[otherFile] = other;
        String rank = new String(squares);
        for (int empty = 8; empty > 0; empty--) {
            rank = rank.replace(".".repeat(empty), "" + empty);
        }
        return rank;
    }

    private static void oneMore(String man) {
        String row = man.equals("Q") ? "QQ6" : man + man + man + "5";
        String low = row.toLowerCase();
        answers(8, "4k3/8/8/8/8/" + row + "/PPPPPPPP/4K3 b - - 0 1");
        answers(0, "4k3/8/8/8/8/" + row + "/PPPPPPP1/4K3 b - - 0 1");
        answers(8, "4k3/pppppppp/" + low + "/8/8/8/8/4K3 w - - 0 1");
        answers(0, "4k3/ppppppp1/" + low + "/8/8/8/8/4K3 w - - 0 1");
    }

    private static void nineMore(String man) {
        boolean queen = man.equals("Q");
        String eight = man.repeat(8) + "/" + man + (queen ? "7" : man + "6");
        String nine = man.repeat(8) + "/" + man + man + (queen ? "6" : man + "5");
        answers(0, "4k3/8/8/8/8/" + eight + "/4K3 b - - 0 1");
        answers(8, "4k3/8/8/8/8/" + nine + "/4K3 b - - 0 1");
        answers(0, "4k3/" + reversed(eight) + "/8/8/8/8/4K3 w - - 0 1");
        answers(8, "4k3/" + reversed(nine) + "/8/8/8/8/4K3 w - - 0 1");
    }

    private static String reversed(String twoRanks) {
        String[] ranks = twoRanks.toLowerCase().split("/");
        return ranks[1] + "/" + ranks[0];
    }

    private static void countedTogether() {
        answers(0, "4k3/8/8/8/8/NNN2BBB/PPPPP3/RRR1K3 b - - 0 1");
        answers(8, "4k3/8/8/8/8/NNN2BBB/PPPPPP2/RRR1K3 b - - 0 1");
        answers(0, "7k/8/8/8/8/NNNQQBBB/PPPP4/RRR1K3 b - - 0 1");
        answers(8, "7k/8/8/8/8/NNNQQBBB/PPPPP3/RRR1K3 b - - 0 1");
        answers(0, "rrr1k3/pppp4/nnnqqbbb/8/8/8/8/7K w - - 0 1");
        answers(8, "rrr1k3/ppppp3/nnnqqbbb/8/8/8/8/7K w - - 0 1");
    }

    private static void fewerDoNotCount() {
        answers(8, "4k3/8/8/8/8/QQ6/PPPPPPPP/4K3 b - - 0 1");
        answers(8, "4k3/8/8/8/8/NNN5/PPPPPPPP/4K3 b - - 0 1");
        answers(8, "4k3/8/8/8/8/BBB5/PPPPPPPP/RN2K1NR b - - 0 1");
        answers(8, "r3k2r/pppppppp/nnn5/8/8/8/8/4K3 w - - 0 1");
    }

    private static void sidesApart() {
        answers(8, "4k3/8/8/8/8/NNN5/PPPPPPPP/4K3 b - - 0 1");
        answers(8, "4k3/pppppppp/nnn5/8/8/8/8/4K3 w - - 0 1");
        answers(0, "4k3/pppppppp/8/8/8/NNN5/PPPPPPP1/4K3 b - - 0 1");
        answers(0, "4k3/ppppppp1/nnn5/8/8/8/PPPPPPPP/4K3 w - - 0 1");
    }

    private static void castling() {
        DUE.test("all four where kings and rooks stand", () -> all(0, CORNERS, " KQkq - 0 1", " w", " b"));
        DUE.test("9: no rook there", () -> {
            rights("K", "r3k2r/8/8/8/8/8/8/R3K3");
            rights("Q", "r3k2r/8/8/8/8/8/8/4K2R");
            rights("k", "r3k3/8/8/8/8/8/8/R3K2R");
            rights("q", "4k2r/8/8/8/8/8/8/R3K2R");
        });
        DUE.test("9: a rook beside it", () -> {
            rights("K", "r3k2r/8/8/8/8/8/8/R3K1R1");
            rights("Q", "r3k2r/8/8/8/8/8/8/1R2K2R");
            rights("k", "r3k1r1/8/8/8/8/8/8/R3K2R");
            rights("q", "1r2k2r/8/8/8/8/8/8/R3K2R");
        });
        DUE.test("9: the king is not on e", () -> {
            rights("K", "r3k2r/8/8/8/8/8/8/R4K1R");
            rights("Q", "r3k2r/8/8/8/8/8/8/R2K3R");
            rights("k", "r4k1r/8/8/8/8/8/8/R3K2R");
            rights("q", "r2k3r/8/8/8/8/8/8/R3K2R");
        });
        DUE.test("9: the king is on another rank", () -> {
            rights("K", "r3k2r/8/8/8/8/8/4K3/R6R");
            rights("Q", "r3k2r/8/8/8/8/8/4K3/R6R");
            rights("k", "r6r/4k3/8/8/8/8/8/R3K2R");
            rights("q", "r6r/4k3/8/8/8/8/8/R3K2R");
        });
        DUE.test("9: the rook is the other side's, or another man", () -> {
            rights("K", "r3k2r/8/8/8/8/8/8/R3K2r");
            rights("Q", "r3k2r/8/8/8/8/8/8/r3K2R");
            rights("k", "r3k2R/8/8/8/8/8/8/R3K2R");
            rights("q", "R3k2r/8/8/8/8/8/8/R3K2R");
            rights("K", "r3k2r/8/8/8/8/8/8/R3K2Q");
            rights("q", "n3k2r/8/8/8/8/8/8/R3K2R");
        });
        DUE.test("9: on the other side's first rank", () -> {
            rights("K", "R3K2R/8/8/8/8/8/8/r3k2r");
            rights("Q", "R3K2R/8/8/8/8/8/8/r3k2r");
            rights("k", "R3K2R/8/8/8/8/8/8/r3k2r");
            rights("q", "R3K2R/8/8/8/8/8/8/r3k2r");
        });
        DUE.test("9: one of several does not hold",
                () -> all(9, "", " - 0 1", "r3k2r/8/8/8/8/8/8/R3K3 w KQkq", "4k2r/8/8/8/8/8/8/R3K2R b KQkq", "4k3/8/8/8/8/8/8/4K2R w KQ"));
        DUE.test("no right is needed", () -> all(0, "", " - - 0 1", CORNERS + " w", "4k2r/8/8/8/8/8/8/4K2R b", KINGS + " w"));
    }

    private static void rights(String right, String ranks) {
        answers(9, ranks + " w " + right + " - 0 1");
        answers(9, ranks + " b " + right + " - 0 1");
    }

    private static void passant() {
        DUE.test("10: no pawn on that file on its fourth rank", () -> {
            all(10, "", " w - d6 0 1", KINGS, "4k3/8/8/2p1p3/8/8/8/4K3", "4k3/8/8/8/3p4/8/8/4K3", "4k3/8/3p4/8/8/8/8/4K3");
            all(10, "", " b - d3 0 1", KINGS, "4k3/8/8/8/2P1P3/8/8/4K3", "4k3/8/8/3P4/8/8/8/4K3", "4k3/8/8/8/8/3P4/8/4K3");
        });
        DUE.test("10: the pawn is of the side that is to move", () -> {
            answers(10, "4k3/8/8/3P4/8/8/8/4K3 w - d6 0 1");
            answers(10, "4k3/8/8/8/3p4/8/8/4K3 b - d3 0 1");
        });
        DUE.test("10: another man than a pawn", () -> {
            all(10, "4k3/8/8/3", "4/8/8/8/4K3 w - d6 0 1", "n", "b", "r", "q", "N");
            all(10, "4k3/8/8/8/3", "4/8/8/4K3 b - d3 0 1", "N", "B", "R", "Q", "n");
        });
        DUE.test("10: its third rank there is not empty", () -> {
            all(10, "4k3/8/3", "4/3p4/8/8/8/4K3 w - d6 0 1", "n", "N", "p", "P", "q");
            all(10, "4k3/8/8/8/3P4/3", "4/8/4K3 b - d3 0 1", "n", "N", "p", "P", "Q");
        });
        DUE.test("10: its second rank there is not empty", () -> {
            all(10, "6k1/3", "4/8/3p4/8/8/8/4K3 w - d6 0 1", "n", "N", "p", "P", "q");
            all(10, "4k3/8/8/8/3P4/8/3", "4/6K1 b - d3 0 1", "n", "N", "p", "P", "Q");
        });
        DUE.test("10: the CLOCK is not 0", () -> {
            all(10, "4k3/8/8/3p4/8/8/8/4K3 w - d6 ", " 1", "1", "2", "10", "999");
            all(10, "4k3/8/8/8/3P4/8/8/4K3 b - d3 ", " 1", "1", "2", "10", "999");
        });
        DUE.test("what else stands on that file, or on its first rank, does not matter", () -> {
            answers(0, "3rk3/8/8/3p4/3P4/3N4/3N4/3RK3 w - d6 0 1");
            answers(0, "3rk3/3n4/3n4/3p4/3P4/8/8/3RK3 b - d3 0 1");
            answers(0, "4k3/2n5/4n3/2ppP3/8/8/8/4K3 w - d6 0 1");
        });
        DUE.test("- whatever pawns stand there and whatever the CLOCK is", () -> {
            answers(0, "4k3/8/8/3p4/3P4/8/8/4K3 w - - 0 1");
            answers(0, "4k3/8/8/3p4/3P4/8/8/4K3 b - - 5 1");
        });
        DUE.test("no pawn need stand there to take it", () -> answers(0, "4k3/8/8/p7/8/8/8/4K3 w - a6 0 1"));
    }

    private static void attackedKing() {
        DUE.test("11: the king of the side that is not to move", () -> {
            answers(11, "4k3/8/8/8/8/8/8/K3R3 w - - 0 1");
            answers(11, "4r2k/8/8/8/8/8/8/4K3 b - - 0 1");
        });
        DUE.test("the king of the side to move may be attacked", () -> {
            answers(0, "4k3/8/8/8/8/8/8/K3R3 b - - 0 1");
            answers(0, "4r2k/8/8/8/8/8/8/4K3 w - - 0 1");
        });
        DUE.test("11: by a knight", () -> all(11, "", " w - - 0 1", "4k3/8/5N2/8/8/8/8/4K3", "4k3/2N5/8/8/8/8/8/4K3", "4k3/6N1/8/8/8/8/8/4K3"));
        DUE.test("11: by a king beside it, whoever is to move", () -> {
            all(11, "", " w - - 0 1", "8/8/8/3kK3/8/8/8/8", "8/8/3k4/4K3/8/8/8/8", "8/8/4k3/4K3/8/8/8/8");
            all(11, "", " b - - 0 1", "8/8/8/3kK3/8/8/8/8", "8/8/3k4/4K3/8/8/8/8", "8/8/4k3/4K3/8/8/8/8");
            answers(0, "8/8/2k5/4K3/8/8/8/8 w - - 0 1");
        });
        DUE.test("11: by a pawn", () -> {
            all(11, "", " w - - 0 1", "4k3/3P4/8/8/8/8/8/4K3", "4k3/5P2/8/8/8/8/8/4K3");
            all(11, "", " b - - 0 1", "4k3/8/8/8/8/8/3p4/4K3", "4k3/8/8/8/8/8/5p2/4K3");
            answers(0, "4k3/4P3/8/8/8/8/8/4K3 w - - 0 1");
            answers(0, "8/8/4k3/3P4/8/8/8/4K3 b - - 0 1");
            answers(0, "8/3P4/4k3/8/8/8/8/4K3 w - - 0 1");
        });
        DUE.test("11: askew by a bishop or queen", () -> {
            all(11, "", " w - - 0 1", "4k3/8/8/8/B7/8/8/4K3", "4k3/8/8/8/Q7/8/8/4K3", "4k3/8/8/7B/8/8/8/4K3");
            answers(0, "4k3/8/8/8/R7/8/8/4K3 w - - 0 1");
        });
        DUE.test("11: straight by a rook or queen", () -> {
            all(11, "", " w - - 0 1", "4k2R/8/8/8/8/8/8/4K3", "4k2Q/8/8/8/8/8/8/4K3", "4k3/8/8/8/4R3/8/8/4K3");
            answers(0, "4k2B/8/8/8/8/8/8/4K3 w - - 0 1");
        });
        DUE.test("not with something between", () -> {
            all(0, "", " w - - 0 1", "4k3/8/8/4n3/8/8/8/K3R3", "4k3/8/8/4N3/8/8/8/K3R3", "4k3/3p4/8/8/Q7/8/8/4K3", "4kn1R/8/8/8/8/8/8/4K3");
        });
    }

    private static void firstOfSeveral() {
        DUE.test("the first field of two that are not as said", Promise05RecordTest::firstOfTwoFields);
        DUE.test("a field that is not as said before what is not RIGHT", Promise05RecordTest::fieldBeforeRight);
        DUE.test("the first one of 7 .. 11", Promise05RecordTest::firstNotRight);
    }

    private static void firstOfTwoFields() {
        for (int first = 0; first < 6; first++) {
            for (int second = first; second < 6; second++) {
                String[] fields = {KINGS, "w", "-", "-", "0", "1"};
                fields[first] = "x";
                fields[second] = "x";
                answers(first + 1, String.join(" ", fields));
            }
        }
    }

    private static void fieldBeforeRight() {
        String[] notRight = {"8/8/8/8/8/8/8/8 w - - 0 1", "P3k3/8/8/8/8/8/8/4K3 w - - 0 1", "4k3/8/8/8/8/8/8/4K3 w K - 0 1",
            "4k3/8/8/8/8/8/8/4K3 w - e6 0 1", "4k3/8/8/8/8/8/8/K3R3 w - - 0 1"};
        for (int i = 0; i < notRight.length; i++) {
            answers(7 + i, notRight[i]);
            for (int field = 0; field < 6; field++) {
                String[] fields = notRight[i].split(" ");
                fields[field] = fields[field] + "x";
                answers(field + 1, String.join(" ", fields));
            }
            answers(6, notRight[i] + " ");
        }
    }

    private static void firstNotRight() {
        answers(7, "P7/8/8/8/8/8/8/8 w KQkq e6 9 1");
        answers(7, "P3k3/8/8/8/8/8/8/8 w - - 0 1");
        answers(7, "4k3/8/8/8/8/8/8/8 w K - 0 1");
        answers(7, "4k3/8/8/8/8/8/8/8 w - e6 0 1");
        answers(7, "2k1k3/8/8/8/8/8/8/K1R1R3 w - - 0 1");
        answers(8, "P3k3/8/8/8/8/8/8/K3R3 w KQkq e6 9 1");
        answers(8, "P3k3/8/8/8/8/8/8/4K3 w K - 0 1");
        answers(8, "P3k3/8/8/8/8/8/8/4K3 w - e6 0 1");
        answers(8, "P3k3/8/8/8/8/8/8/K3R3 w - - 0 1");
        answers(9, "4k3/8/8/8/8/8/8/K3R3 w KQkq e6 9 1");
        answers(9, "4k3/8/8/8/8/8/8/4K3 w K e6 0 1");
        answers(9, "4k3/8/8/8/8/8/8/K3R3 w K - 0 1");
        answers(10, "4k3/8/8/8/8/8/8/K3R3 w - e6 0 1");
        answers(11, "4k3/8/8/8/8/8/8/K3R3 w - - 9 1");
    }

    private static void refused() {
        String[] texts = {"", START + " B KQkq - 5 6", START + " b QK - 5 6", START + " b KQkq x 5 6", START + " b KQkq e3 1000 6",
            START + " b KQkq - 5 6 ", "r7/8/8/8/8/8/8/R7 b - - 3 4", "p3k3/8/8/8/8/8/8/4K3 b - - 3 4", "4k3/8/8/8/8/8/8/4K2R b Q - 3 4",
            "4k3/8/8/8/8/8/8/4K2R b - a3 0 4", "4k3/8/8/8/8/8/8/K3r3 b - - 3 4"};
        for (int i = 0; i < texts.length; i++) {
            int fault = i + 1;
            String text = texts[i];
            DUE.test("what is refused with " + fault + " changes nothing, and moves stay told", () -> {
                Game game = Game.sample().typed(text);
                DUE.is("record() of '" + text + "'", game.record(), fault);
                DUE.is("what is left", game.seen(), Game.sample().typed(text).seen());
            });
        }
        DUE.test("what is refused behind one that was read leaves that one", () -> {
            String right = "r3k2r/8/8/3pP3/8/8/8/R3K2R w KQkq d6 0 9999";
            for (int i = 0; i < texts.length; i++) {
                Game game = new Game().typed(right);
                DUE.is("record()", game.record(), 0);
                DUE.is("record() of '" + texts[i] + "'", game.typed(texts[i]).record(), i + 1);
                game.write();
                DUE.is("the record that is written then", game.text(), right);
            }
        });
        DUE.test("what is refused leaves nothing in the next one that is read", () -> {
            Game game = new Game().typed(START + " b KQkq - 55 x");
            DUE.is("record()", game.record(), 6);
            DUE.is("record()", game.typed(KINGS + " w - - 0 1").record(), 0);
            DUE.is("the state", game.state(), "0 0 -1 0 1");
            game.write();
            DUE.is("the record", game.text(), KINGS + " w - - 0 1");
        });
    }
}
