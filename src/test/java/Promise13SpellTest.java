/** Promise 13: spell. */
public final class Promise13SpellTest {
    private static final Due DUE = new Due("Promise 13, spell");

    public static void main(String[] args) {
        men();
        origins();
        kings();
        pawns();
        texts();
        refusals();
        DUE.end();
    }

    private static void spells(Game game, String move, String want) {
        DUE.is("spell " + move, game.spell(Game.move(move)), want.length());
        DUE.is("the spelling of " + move, game.text(), want);
        DUE.is("look(0)", game.look(0), want.length());
    }

    /** Moves and their spellings by turns, all moves being told first. */
    private static void spelled(String ranks, String... pairs) {
        Game game = Game.of(ranks);
        for (int i = 0; i < pairs.length; i += 2) {
            game.told(pairs[i]);
        }
        for (int i = 0; i < pairs.length; i += 2) {
            spells(game, pairs[i].split(":")[0], pairs[i + 1]);
        }
    }

    private static void men() {
        DUE.test("K, Q, R, B or N and the square, of either side", () -> {
            spelled("8/8/8/8/8/8/8/1NBRQK2", "f1g1", "Kg1", "e1e5", "Qe5", "d1d8", "Rd8", "c1h6", "Bh6", "b1a3", "Na3");
            spelled("1nbrqk2/8/8/8/8/8/8/8", "f8g8", "Kg8", "e8e5", "Qe5", "d8d1", "Rd1", "c8h3", "Bh3", "b8a6", "Na6");
        });
        DUE.test("x if the square it goes to is not empty, whatever stands there", () -> {
            for (char man : "PNBRQKpnbrqk".toCharArray()) {
                spelled("8/8/8/8/3" + man + "4/8/8/b5NR", "a1d4", "Bxd4", "h1h2", "Rh2", "g1h1", "Nxh1");
            }
        });
        DUE.test("+ for check and # for mate behind each", () -> {
            spelled("4k3/1P6/8/8/8/8/8/R3K2Q", "a1a2", "Ra2", "a1a8:1", "Ra8+", "a1a7:2", "Ra7#", "h1h8:2", "Qh8#",
                    "e1g1:1", "0-0+", "e1c1:2", "0-0-0#", "b7b8Q:1", "b8Q+", "b7b8R:2", "b8R#", "b7b8", "b8", "e1e2:1", "Ke2+");
        });
        DUE.test("to each square", Promise13SpellTest::eachSquare);
    }

    private static void eachSquare() {
        for (int to = 0; to < 64; to++) {
            if (to != Game.square("d3")) {
                String move = "d3" + Game.name(to);
                spells(Game.of("8/8/8/8/8/3N4/8/8").told(move), move, "N" + Game.name(to));
                spells(Game.of("8/8/8/8/8/3P4/8/8").told(move), move, (to % 8 == 3 ? "" : "dx") + Game.name(to));
            }
        }
    }

    private static void origins() {
        DUE.test("no rival: no ORIGIN", () -> {
            spelled("8/8/8/8/8/8/8/1N3N2", "b1d2", "Nd2", "f1e3", "Ne3");
            spelled("8/8/8/8/8/8/8/1N3N2", "b1d2", "Nd2");
        });
        DUE.test("its file, if no rival has it", () -> {
            spelled("8/8/8/8/8/8/8/R6R", "a1d1", "Rad1", "h1d1:1", "Rhd1+");
            spelled("7R/8/8/8/8/8/8/R7", "a1d4", "Rad4", "h8d4", "Rhd4");
        });
        DUE.test("its file, if no rival has it, though rivals have its rank", () ->
            spelled("8/8/8/8/R2R3R/8/8/8", "a4b1", "Rab1", "d4b1", "Rdb1", "h4b1", "Rhb1"));
        DUE.test("else its rank, if no rival has that", () -> {
            spelled("R7/8/8/3n4/8/8/8/R7", "a1a4", "R1a4", "a8a4", "R8a4", "a1d5", "R1xd5", "a8d5:2", "R8xd5#");
            spelled("q7/q7/8/8/8/8/8/q7", "a8h8", "Q8h8", "a7h8", "Q7h8", "a1h8", "Q1h8");
        });
        DUE.test("else its file and rank", () -> {
            spelled("8/8/8/8/Q6Q/8/8/7Q", "h4e1", "Qh4e1", "a4e1", "Qae1", "h1e1", "Q1e1");
            spelled("q7/8/8/8/8/8/8/q6q", "a1h8", "Qa1h8", "h1h8", "Qhh8", "a8h8", "Q8h8");
            spelled("8/8/8/8/8/N1N5/8/N1N5", "a1b5", "Na1b5", "c1b5", "Nc1b5", "a3b5", "Na3b5", "c3b5", "Nc3b5");
        });
        DUE.test("its own square is no rival, and its other moves are none", () ->
            spelled("8/8/8/8/8/8/8/R6R", "a1a2", "Ra2", "a1a3", "Ra3", "h1h2", "Rh2", "h1g1", "Rg1", "a1b1", "Rb1"));
        DUE.test("rivals are of one side", () ->
            spelled("8/8/8/8/8/5n2/8/1N6", "b1d2", "Nd2", "f3d2:1", "Nd2+"));
        DUE.test("rivals are the same man", () ->
            spelled("8/8/8/8/8/8/3K4/1N1R1BQ1", "b1e2", "Ne2", "f1e2", "Be2", "g1e2", "Qe2", "d1e2", "Re2", "d2e2", "Ke2"));
        DUE.test("what is not told is no rival, what is told later is one", () -> {
            Game game = Game.of("8/8/8/8/8/8/8/1N3N2").told("b1d2");
            spells(game, "b1d2", "Nd2");
            game.told("f1d2");
            spells(game, "b1d2", "Nbd2");
        });
        DUE.test("the last of 330 is a rival", Promise13SpellTest::lastOfAll);
        DUE.test("x behind the ORIGIN", () -> {
            spelled("8/8/8/8/Q6Q/8/8/4n2Q", "h4e1:1", "Qh4xe1+", "a4e1", "Qaxe1", "h1e1", "Q1xe1");
        });
        DUE.test("kings are rivals, also those that go two files or more", () -> {
            spelled("8/8/8/8/8/8/8/4KK2", "f1g1", "Kfg1", "e1g1", "0-0");
            spelled("8/8/8/8/8/8/8/KK2K3", "b1c1", "Kbc1", "e1c1", "0-0-0", "a1c1", "0-0");
            spelled("6K1/8/8/8/8/8/7K/8", "h2h1", "Kh1");
            spelled("8/8/8/8/8/6K1/8/6K1", "g1g2", "K1g2", "g3g2", "K3g2");
            spelled("8/8/8/8/8/8/8/4kK2", "f1g1", "Kg1", "e1g1", "0-0");
        });
    }

    private static void lastOfAll() {
        Game game = Game.of("8/8/8/8/8/8/P1PPPPPP/1N3N2").told("b1d4");
        for (int i = 0; i < 328; i++) {
            String file = "acdefgh".substring(i % 7, i % 7 + 1);
            game.told(file + "2" + Game.name(16 + i / 7));
        }
        spells(game, "b1d4", "Nd4");
        game.told("f1d4");
        DUE.is("look(6)", game.look(6), 330);
        spells(game, "b1d4", "Nbd4");
        spells(game, "f1d4", "Nfd4");
    }

    private static void kings() {
        DUE.test("a king's move by two files to a higher one: 0-0", () -> {
            spelled("8/8/8/8/8/8/8/4K3", "e1g1", "0-0");
            spelled("4k3/8/8/8/8/8/8/8", "e8g8:1", "0-0+");
            spelled("8/8/8/8/8/8/8/K7", "a1c1", "0-0");
        });
        DUE.test("a king's move by two files to a lower one: 0-0-0", () -> {
            spelled("8/8/8/8/8/8/8/4K3", "e1c1", "0-0-0");
            spelled("4k3/8/8/8/8/8/8/8", "e8c8:2", "0-0-0#");
            spelled("8/8/8/8/8/8/8/7K", "h1f1", "0-0-0");
        });
        DUE.test("by more than two files", () -> {
            spelled("8/8/8/8/8/8/8/K7", "a1d1", "0-0", "a1h1", "0-0");
            spelled("7k/8/8/8/8/8/8/8", "h8e8", "0-0-0", "h8a8", "0-0-0");
        });
        DUE.test("by one file: no castling", () ->
            spelled("8/8/8/8/4K3/8/8/8", "e4d4", "Kd4", "e4f4", "Kf4", "e4d5", "Kd5", "e4f5", "Kf5", "e4d3", "Kd3", "e4f8", "Kf8"));
        DUE.test("by no file: no castling, however many ranks", () ->
            spelled("8/8/8/8/8/8/8/4K3", "e1e2", "Ke2", "e1e3", "Ke3", "e1e8", "Ke8"));
        DUE.test("by two files or more with other ranks too", () ->
            spelled("8/8/8/8/8/8/8/4K3", "e1g2", "0-0", "e1h8", "0-0", "e1c2", "0-0-0", "e1a8", "0-0-0"));
        DUE.test("whatever stands there", () -> spelled("8/8/8/8/8/8/8/R1b1K1nR", "e1g1", "0-0", "e1c1", "0-0-0", "e1h1", "0-0", "e1a1", "0-0-0"));
        DUE.test("only kings", () ->
            spelled("8/8/8/8/8/8/4P3/1N2QR1B", "e1g1", "Qg1", "f1d1", "Rd1", "h1f3", "Bf3", "b1d2", "Nd2", "e2g4", "exg4"));
    }

    private static void pawns() {
        DUE.test("the square alone, if the file stays", () ->
            spelled("8/8/8/8/8/8/P6p/8", "a2a3", "a3", "a2a4", "a4", "h2h1", "h1", "a2a8", "a8"));
        DUE.test("no x on the same file, though something stands there", () -> spelled("8/8/8/8/8/n7/P7/8", "a2a3", "a3"));
        DUE.test("its file and x, if the file changes, whatever stands there", () ->
            spelled("8/8/8/3pP3/8/8/P7/1N6", "e5d6:1", "exd6+", "e5f6", "exf6", "a2b3", "axb3", "a2b1", "axb1", "d5e5", "dxe5", "a2h8", "axh8"));
        DUE.test("the letter of what it becomes, if it does", () ->
            spelled("3r4/4P3/8/8/8/8/p7/8", "e7e8", "e8", "e7e8N", "e8N", "e7e8B", "e8B", "e7e8R", "e8R", "e7e8Q:1", "e8Q+",
                    "e7d8N", "exd8N", "e7d8Q:2", "exd8Q#", "a2a1Q", "a1Q", "a2b1R", "axb1R", "e7e6B", "e6B"));
        DUE.test("no ORIGIN, though there are others to the same square", () ->
            spelled("8/8/8/3P1P2/4p3/8/4P3/8", "e2e6", "e6", "e4e6", "e6", "d5e6", "dxe6", "f5e6", "fxe6"));
    }

    private static void texts() {
        DUE.test("the text becomes that, whatever it was", () -> {
            for (String former : new String[] {"", "x", "x".repeat(100)}) {
                Game game = Game.of("8/8/8/8/8/8/4P3/4K3").told("e2e4 e1g1").typed(former);
                spells(game, "e2e4", "e4");
                spells(game, "e1g1", "0-0");
                spells(game, "e2e4", "e4");
            }
        });
        DUE.test("how many characters: from 2 to 7", () -> {
            DUE.is("spell", Game.of("8/8/8/8/8/8/4P3/8").told("e2e4").spell(Game.move("e2e4")), 2);
            Game longest = Game.of("8/8/8/8/Q6Q/8/8/4n2Q").told("a4e1 h1e1 h4e1:2");
            DUE.is("spell", longest.spell(Game.move("h4e1")), 7);
            DUE.is("the text", longest.text(), "Qh4xe1#");
        });
        DUE.test("the position and the moves stay", () -> {
            Game game = Game.sample();
            game.spell(Game.move("e1g1"));
            DUE.is("what else is there", game.seenBesidesText(), Game.sample().seenBesidesText());
        });
        DUE.test("the state does not matter", () -> {
            Game game = Game.of("4k3/8/8/8/8/8/8/4K3").told("e1e2 e8e7:1 e1g1");
            game.state(1, 15, 3, 4, 5);
            spells(game, "e1e2", "Ke2");
            spells(game, "e8e7", "Ke7+");
            spells(game, "e1g1", "0-0");
        });
    }

    private static void refusals() {
        DUE.test("IllegalArgumentException if no move was told", () -> {
            Game game = Game.of("8/8/8/8/8/8/8/4K3");
            for (int move : new int[] {0, Game.move("e1e2"), -1, Integer.MIN_VALUE, Integer.MAX_VALUE}) {
                refused(game, game.text(), move);
            }
        });
        DUE.test("IllegalArgumentException if others were told", () -> refused("e1e3", "e8e6", "a1a2", "b7b8"));
        DUE.test("IllegalArgumentException if it becomes something else", () -> refused("b7b8R", "b7b8", "b7a8Q", "b7a8", "c3d5N"));
        DUE.test("IllegalArgumentException if it is no number as said", () -> {
            int told = Game.move("c3d5");
            for (int move : new int[] {-1, 0, 4096, told + 4096, told + 65536, told - 65536, told + (1 << 24), told | Integer.MIN_VALUE, -told,
                Integer.MIN_VALUE, Integer.MAX_VALUE, GameNotation.NONE}) {
                refused(Game.sample(), "Qxa8+ ", move);
            }
        });
        DUE.test("IllegalArgumentException if it was told before forget, put or record", () -> {
            String record = "4k3/8/8/8/8/8/8/4K3 w - - 0 1";
            Game forgotten = Game.of("4k3/8/8/8/8/8/8/4K3").told("e1e2").typed("text");
            forgotten.forget();
            refused(forgotten, "text", Game.move("e1e2"));
            Game put = Game.of("4k3/8/8/8/8/8/8/4K3").told("e1e2").typed("text");
            put.put(0, 1);
            refused(put, "text", Game.move("e1e2"));
            Game read = Game.of("4k3/8/8/8/8/8/8/4K3").told("e1e2").typed(record);
            DUE.is("record()", read.record(), 0);
            refused(read, record, Game.move("e1e2"));
        });
        DUE.test("IllegalArgumentException if tell refused it", () -> {
            Game game = Game.of("4k3/8/8/8/8/8/8/4K3").typed("text");
            DUE.is("tell", game.tell(Game.move("e1e2"), 3), false);
            refused(game, "text", Game.move("e1e2"));
        });
        DUE.test("what throws changes nothing", () -> {
            Game game = Game.sample();
            DUE.isThrown("spell(0)", IllegalArgumentException.class, () -> game.spell(0));
            DUE.is("what is left", game.seen(), Game.sample().seen());
        });
    }

    private static void refused(String... moves) {
        for (String move : moves) {
            refused(Game.sample(), "Qxa8+ ", Game.move(move));
        }
    }

    private static void refused(Game game, String text, int move) {
        DUE.isThrown("spell(" + move + ")", IllegalArgumentException.class, () -> game.spell(move));
        DUE.is("the text that is left", game.text(), text);
    }
}
