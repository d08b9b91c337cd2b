/** Promise 14: find. */
public final class Promise14FindTest {
    private static final Due DUE = new Due("Promise 14, find");

    public static void main(String[] args) {
        found();
        noForm();
        form();
        noneTold();
        otherwiseSpelled();
        otherwiseSigned();
        DUE.end();
    }

    /** Texts and, for each, the move that it finds or a number less than 0; all on new objects with the same moves. */
    private static void finds(String ranks, String moves, String... pairs) {
        for (int i = 0; i < pairs.length; i += 2) {
            Game game = Game.of(ranks);
            if (!moves.isEmpty()) {
                game.told(moves);
            }
            game.typed(pairs[i]);
            boolean none = pairs[i + 1].startsWith("-");
            int want = none ? Integer.parseInt(pairs[i + 1]) : Game.move(pairs[i + 1]);
            DUE.is("find() of '" + pairs[i] + "'", game.find(), want);
            DUE.is("the text behind it", game.text(), pairs[i]);
        }
    }

    private static void allWithNoneTold(int want, String... texts) {
        for (String text : texts) {
            finds("8/8/8/8/8/8/8/8", "", text, "" + want);
        }
    }

    private static void found() {
        DUE.test("the told one of which it is the SPELLING", () -> {
            finds("4k3/1P6/8/8/8/2N5/8/R3K2R", "e1g1 e1c1:1 e1f2:2 a1a8:1 h1f1 c3d5 b7b8Q b7a8N:2 b7b8",
                    "0-0", "e1g1", "0-0-0+", "e1c1", "Kf2#", "e1f2", "Ra8+", "a1a8", "Rf1", "h1f1", "Nd5", "c3d5", "b8Q", "b7b8Q",
                    "bxa8N#", "b7a8N", "b8", "b7b8");
            finds("8/8/8/8/Q6Q/8/8/4n2Q", "h4e1:1 a4e1 h1e1:2 h4h8", "Qh4xe1+", "h4e1", "Qaxe1", "a4e1", "Q1xe1#", "h1e1", "Qh8", "h4h8");
        });
        DUE.test("the first one told, if there are several", () -> {
            finds("8/8/4p3/8/8/8/4P3/8", "e6e4 e2e4", "e4", "e6e4");
            finds("8/8/4p3/8/8/8/4P3/8", "e2e4 e6e4", "e4", "e2e4");
            finds("8/8/8/8/8/5n2/8/1N6", "f3d2 b1d2", "Nd2", "f3d2");
            finds("8/8/8/8/8/5n2/8/1N6", "b1d2 f3d2", "Nd2", "b1d2");
            finds("4k3/8/8/8/8/8/8/4K3", "e8g8 e1g1 e1h1", "0-0", "e8g8");
            finds("4k3/8/8/8/8/8/8/4K3", "e1a1 e8c8", "0-0-0", "e1a1");
        });
        DUE.test("the first one of that sign, if one with another sign was told before", () -> {
            finds("8/8/4p3/8/8/8/4P3/8", "e2e4:1 e6e4", "e4", "e6e4", "e4+", "e2e4", "e4#", "-4");
            finds("4k3/8/8/8/8/8/8/4K3", "e8g8:2 e1g1 e1h1:2", "0-0", "e1g1", "0-0#", "e8g8", "0-0+", "-4");
        });
        DUE.test("the last one of 330", () -> {
            Game game = Game.of("8/8/8/8/8/8/P1PPPPPP/1N6");
            for (int i = 0; i < 329; i++) {
                game.told("acdefgh".substring(i % 7, i % 7 + 1) + "2" + Game.name(16 + i / 7));
            }
            game.told("b1a3:2").typed("Na3#");
            DUE.is("look(6)", game.look(6), 330);
            DUE.is("find()", game.find(), Game.move("b1a3"));
        });
        DUE.test("the text and all else stays, whatever is answered", () -> {
            for (String text : new String[] {"Qxa8+", "", "Kh8", "Qaxa8+", "Qxa8"}) {
                Game game = Game.sample().typed(text);
                game.find();
                DUE.is("what is left", game.seen(), Game.sample().typed(text).seen());
            }
        });
        DUE.test("what spell writes is found again", () -> {
            Game game = Game.sample();
            for (String move : "b7b8Q b7a8N a1a8 e1g1 c3d5 h8h7".split(" ")) {
                game.spell(Game.move(move));
                DUE.is("find() of what is spelled for " + move, game.find(), Game.move(move));
            }
        });
    }

    private static void noForm() {
        DUE.test("-1: an empty text", () -> {
            allWithNoneTold(-1, "");
            finds("8/8/8/8/8/8/8/4K3", "e1e2", "", "-1");
        });
        DUE.test("-1: a sign alone", () -> allWithNoneTold(-1, "+", "#", "++", "+#"));
        DUE.test("-1: two signs behind it, or one elsewhere", () -> allWithNoneTold(-1, "e4++", "e4+#", "e4##", "Nd2#+", "0-0++", "0-0-0#+",
                "+e4", "#Nd2", "e8+Q", "0-0+-0", "N+d2", "e+4"));
        DUE.test("-1: a full text", () -> allWithNoneTold(-1, "e4".repeat(50), "0-".repeat(50), "N".repeat(98) + "e4", "x".repeat(100)));
        DUE.test("-1: a blank ahead of it or behind it", () -> allWithNoneTold(-1, " e4", "e4 ", " Nd2", "Nd2 ", "Nd2+ ", " 0-0", "0-0 ", " "));
        DUE.test("-1: almost 0-0 or 0-0-0", () -> allWithNoneTold(-1, "0", "0-", "00", "-0", "0-0-", "0-0-0-", "0-0-0-0", "0-0-0-0-0",
                "O-O", "o-o", "0-1", "1-0", "O-0", "0+0", "0_0-0", "1-0-0", "0-1-0", "0-0-1", "0-0+0", "0--0", "0-0Q", "K0-0", "0-0-0x", "000",
                "00-0"));
        DUE.test("-1: a letter of K Q R B N alone, or with too little behind it",
                () -> allWithNoneTold(-1, "K", "Q", "Ke", "K2", "Nx", "Nxd", "Nx2", "N12", "Nab", "Nxx"));
        DUE.test("-1: more behind the letter than it has room for", () -> allWithNoneTold(-1, "Nbcd2", "N12d2", "N1bd2", "Nb1d2d3", "Nxxd2",
                "Nxbd2", "Nx1d2", "Nb1xxd2", "NNd2", "Nd2x", "Ne44", "Nee4e", "N4e4e4", "Nabce4", "N123e4", "Nb1c2d3", "Nbx1d2"));
        DUE.test("-1: another letter ahead", () -> allWithNoneTold(-1, "Pe4", "pe4", "ke2", "nd2", "Xe4", "1e4", "xe4", "Ie4", "qd1", "-e4"));
        DUE.test("-1: what becomes behind another man than a pawn", () -> allWithNoneTold(-1, "Ke2Q", "Nd8Q", "Nxd8R", "Nb1xd2Q", "Qh8N+"));
        DUE.test("-1: no such square", Promise14FindTest::noSuchSquare);
        DUE.test("-1: a file alone, a rank alone", () -> allWithNoneTold(-1, "e", "4", "a", "12", "ab", "e+"));
        DUE.test("-1: a pawn with more ahead than its file and x", () -> allWithNoneTold(-1, "ee4", "e2e4", "ed5", "e4xd5", "exxd5", "4xd5",
                "xd5", "e4d5", "exfxd5", "Exd5", "exd", "ex5", "ex", "axb", "2xd5"));
        DUE.test("-1: a pawn with more behind than a letter of Q R B N", () -> allWithNoneTold(-1, "e8K", "e8P", "e8q", "e8n", "e8QQ", "e8QN",
                "e8=Q", "exd8K", "exd8QN", "e8Qx", "e8x", "e4e", "e45", "e8Q1", "e8Q=", "eQ", "Q8", "8Q"));
        DUE.test("-1 before all else, though moves are told", () ->
            finds("4k3/4P3/8/8/8/8/8/4K3", "e1e2 e1g1 e7e8Q", "Ke2 ", "-1", "0-0-", "-1", "e8=Q", "-1", "Ke2++", "-1", "e1e2", "-1"));
    }

    private static void noSuchSquare() {
        for (char file = 33; file < 127; file++) {
            if (file < 'a' || file > 'h') {
                allWithNoneTold(-1, file + "4", "N" + file + "4", "ex" + file + "5");
            }
        }
        for (char rank = 33; rank < 127; rank++) {
            if (rank < '1' || rank > '8') {
                allWithNoneTold(-1, "e" + rank, "Ne" + rank, "dxe" + rank, "e" + rank + "Q");
            }
        }
    }

    private static void form() {
        DUE.test("0-0 and 0-0-0 have the FORM, with each sign", () -> allWithNoneTold(-2, "0-0", "0-0+", "0-0#", "0-0-0", "0-0-0+", "0-0-0#"));
        DUE.test("a man's spellings have it: a file or not, a rank or not, x or not, with each sign", Promise14FindTest::menHaveTheForm);
        DUE.test("a pawn's spellings have it: a file and x or not, a letter or not, with each sign", Promise14FindTest::pawnsHaveTheForm);
    }

    private static void menHaveTheForm() {
        for (String man : new String[] {"K", "Q", "R", "B", "N"}) {
            for (String file : new String[] {"", "a", "d", "h"}) {
                for (String rank : new String[] {"", "1", "4", "8"}) {
                    for (String takes : new String[] {"", "x"}) {
                        allWithNoneTold(-2, man + file + rank + takes + "a1", man + file + rank + takes + "h8+", man + file + rank + takes + "d4#");
                    }
                }
            }
        }
    }

    private static void pawnsHaveTheForm() {
        for (String takes : new String[] {"", "ax", "dx", "hx", "bx"}) {
            for (String becomes : new String[] {"", "Q", "R", "B", "N"}) {
                for (String sign : new String[] {"", "+", "#"}) {
                    allWithNoneTold(-2, takes + "a1" + becomes + sign, takes + "h8" + becomes + sign, takes + "d4" + becomes + sign);
                }
            }
        }
    }

    private static void noneTold() {
        String ranks = "8/4P3/8/8/8/8/8/1N3N1K";
        String moves = "b1d2 f1d2 e7e8Q e7e8R e7d8N h1h2 f1e3";
        DUE.test("-2: no move is told at all", () -> allWithNoneTold(-2, "Ke2", "e4", "0-0", "0-0-0", "e8Q"));
        DUE.test("-2: no told move is to that square", () -> finds(ranks, moves, "Nc3", "-2", "Kh3", "-2", "e7", "-2", "c8Q", "-2", "Nxc3+", "-2"));
        DUE.test("-2: no told move is of that man", () ->
            finds(ranks, moves, "Bd2", "-2", "Kd2", "-2", "Qd2", "-2", "Rd2", "-2", "d2", "-2", "cxd2", "-2", "Nh2", "-2", "h2", "-2", "Ke8", "-2"));
        DUE.test("-2: no told move has that letter behind it, or has one", () ->
            finds(ranks, moves, "e8N", "-2", "e8B", "-2", "e8", "-2", "exd8Q", "-2", "exd8", "-2", "d8", "-2"));
        DUE.test("-2: a letter behind a move that has none", () -> finds("8/8/8/8/8/8/4P3/8", "e2e4", "e4Q", "-2", "exe4N", "-2"));
        DUE.test("the man is of either side", () ->
            finds("8/8/8/8/8/5n2/4p3/8", "f3d2:1 e2e1Q", "Nd2+", "f3d2", "Nd2", "-4", "Nfd2", "-3", "e1Q", "e2e1Q"));
        DUE.test("-2: none castles, or none to that side", () -> {
            finds(ranks, moves, "0-0", "-2", "0-0-0", "-2", "0-0+", "-2");
            finds("8/8/8/8/8/8/8/4K2R", "e1g1:1", "0-0-0", "-2", "0-0-0+", "-2");
            finds("4k3/8/8/8/8/8/8/8", "e8c8", "0-0", "-2", "0-0#", "-2");
        });
        DUE.test("-2: other men do not castle", () -> finds("8/8/8/8/8/8/4P3/Q3R3", "a1c1 e1g1 e1c1 e2g2", "0-0", "-2", "0-0-0", "-2"));
        DUE.test("-2: a king that goes one file does not castle", () -> finds("8/8/8/8/8/8/8/4K3", "e1f1 e1d1 e1e3", "0-0", "-2", "0-0-0", "-2"));
        DUE.test("-2: those that castle count for this alone", () -> {
            finds("8/8/8/8/8/8/8/4K2R", "e1g1:1", "Kg1", "-2", "Kg1+", "-2", "Keg1+", "-2", "Kxg1", "-2", "0-0+", "e1g1");
            finds("4k3/8/8/8/8/8/8/8", "e8c8 e8a1", "Kc8", "-2", "Ka1", "-2", "0-0-0", "e8c8");
            finds("8/8/8/8/8/8/8/4KK2", "e1g1 f1g1:2", "Kfg1#", "f1g1", "Kg1#", "-3", "Keg1", "-3", "0-0", "e1g1", "0-0-0", "-2");
        });
        DUE.test("-2: what was told before forget, put or record does not count", () -> {
            Game forgotten = Game.of("4k3/8/8/8/8/8/8/4K3").told("e1e2").typed("Ke2");
            DUE.is("find()", forgotten.find(), Game.move("e1e2"));
            forgotten.forget();
            DUE.is("find() behind forget", forgotten.find(), -2);
            Game put = Game.of("4k3/8/8/8/8/8/8/4K3").told("e1e2").typed("Ke2");
            put.put(4, 6);
            DUE.is("find() behind put", put.find(), -2);
            Game read = Game.of("4k3/8/8/8/8/8/8/4K3").told("e1e2").typed("4k3/8/8/8/8/8/8/4K3 w - - 0 1");
            DUE.is("record()", read.record(), 0);
            DUE.is("find() behind record", read.typed("Ke2").find(), -2);
        });
    }

    private static void otherwiseSpelled() {
        String ranks = "8/4P3/8/8/8/8/8/1N3N1K";
        String moves = "b1d2 f1d2 e7e8Q e7d8N h1h2 f1e3";
        DUE.test("-3: the ORIGIN is missing", () -> finds(ranks, moves, "Nd2", "-3", "Nd2+", "-3", "Nd2#", "-3"));
        DUE.test("-3: the ORIGIN is another one", () -> finds(ranks, moves, "Nad2", "-3", "N1d2", "-3", "Nb2d2", "-3", "Nc1d2", "-3"));
        DUE.test("-3: the ORIGIN says more than it must", () ->
            finds(ranks, moves, "Nb1d2", "-3", "Nfe3", "-3", "N1e3", "-3", "Nf1e3", "-3", "Khh2", "-3"));
        DUE.test("-3: x where nothing stands", () -> finds(ranks, moves, "Nbxd2", "-3", "Nxe3#", "-3", "Kxh2", "-3", "exe8Q", "-3", "dxe8Q", "-3"));
        DUE.test("-3: no x where something stands", () -> finds("8/8/8/8/8/8/3p4/1N6", "b1d2", "Nd2", "-3", "Nbd2", "-3", "Nxd2", "b1d2"));
        DUE.test("-3: a pawn without its file, or with another", () ->
            finds(ranks, moves, "d8N", "-3", "fxd8N", "-3", "cxd8N+", "-3", "exd8N", "e7d8N"));
        DUE.test("-3: a pawn that keeps its file, with a file", () -> finds("8/8/4n3/8/8/8/4P3/8", "e2e6", "exe6", "-3", "dxe6", "-3", "e6", "e2e6"));
        DUE.test("-3: the whole ORIGIN where the file would do, and the other way round", () ->
            finds("8/8/8/8/Q6Q/8/8/7Q", "h4e1 a4e1 h1e1", "Qhe1", "-3", "Q4e1", "-3", "Qh1e1", "-3", "Qa4e1", "-3", "Qh4e1", "h4e1"));
    }

    private static void otherwiseSigned() {
        DUE.test("-4: a sign where there is none", () -> finds("8/4P3/8/8/8/8/8/1N2K3", "b1c3 e7d8N e1g1 e1c1 e7e8",
                "Nc3+", "-4", "Nc3#", "-4", "exd8N+", "-4", "0-0#", "-4", "0-0-0+", "-4", "e8#", "-4"));
        DUE.test("-4: no sign where there is one", () -> finds("8/4P3/8/8/8/8/8/1N2K3", "b1c3:1 e7d8N:2 e1g1:1 e1c1:2 e7e8:1",
                "Nc3", "-4", "exd8N", "-4", "0-0", "-4", "0-0-0", "-4", "e8", "-4"));
        DUE.test("-4: + for #, and # for +", () -> finds("8/4P3/8/8/8/8/8/1N2K3", "b1c3:1 e7d8N:2 e1g1:1 e1c1:2 e7e8:1",
                "Nc3#", "-4", "exd8N+", "-4", "0-0#", "-4", "0-0-0+", "-4", "e8#", "-4"));
        DUE.test("-4, though others to that square are otherwise spelled", () ->
            finds("8/8/8/8/8/8/8/1N3N2", "b1d2 f1d2:1", "Nbd2+", "-4", "Nfd2", "-4", "Nfd2#", "-4", "Nbd2", "b1d2", "Nfd2+", "f1d2"));
        DUE.test("-4 behind -3, and -3 behind -4: the order of telling does not matter", () -> {
            finds("8/8/8/3P1P2/8/8/8/8", "d5e6:1 f5e6", "dxe6", "-4", "fxe6+", "-4", "e6", "-3", "gxe6", "-3");
            finds("8/8/8/3P1P2/8/8/8/8", "f5e6 d5e6:1", "dxe6", "-4", "fxe6+", "-4", "e6", "-3", "gxe6", "-3");
        });
        DUE.test("-3, not -4, if neither the sign nor the rest is right", () ->
            finds("8/8/8/8/8/8/8/1N5K", "b1d2:1", "Nbd2", "-3", "Nxd2#", "-3", "Nbd2+", "-3"));
    }
}
