import java.util.List;
import java.util.Random;

/** Long runs of calls, the same in every test run, each answer compared with the plain model's (all promises). */
public final class ModelTest {
    private static final int RUNS = 8000;
    // Each run stops here, so that what is compared at its end stays within the 512 calls of an object.
    private static final int CALLS = 300;
    private static final String[] RECORDS = {
        "rnbqkbnr/pppppppp/8/8/8/8/PPPPPPPP/RNBQKBNR w KQkq - 0 1",
        "rnbqkbnr/pppp1ppp/8/4p3/4P3/8/PPPP1PPP/RNBQKBNR w KQkq e6 0 2",
        "rnbqkbnr/pppp1ppp/8/4p3/4P3/8/PPPP1PPP/RNBQKBNR b Qk e3 0 34",
        "r3k2r/8/8/3p4/8/2N5/8/R3K2R w Kq d6 0 10",
        "4k3/8/8/8/8/8/8/4K2R b K - 12 345",
        "2q1k3/1PPP4/8/8/7b/8/3pp3/4K3 w - - 999 9999",
        "4k3/4r3/8/8/8/8/4Q3/4K3 b - - 0 1",
        "k7/8/8/8/8/8/1QQQQQQQ/1QQ1K3 b - - 5 60"};
    private static final String RECORD_CHARACTERS = "PNBRQKpnbrqk12345678/ wb-KQkqae36019";
    private static final String MOVE_CHARACTERS = "KQRBNabcdefgh12345678x+#0-QRBN";

    private final Due due = new Due("All promises, by the plain model");
    private final Random random = new Random(20261115);
    private Game game;
    private PlainModel model;

    public static void main(String[] args) {
        ModelTest test = new ModelTest();
        test.due.test("runs of records", () -> test.runs(true));
        test.due.test("runs of moves", () -> test.runs(false));
        test.due.end();
    }

    private void runs(boolean ofRecords) {
        for (int run = 0; run < RUNS; run++) {
            game = new Game();
            model = new PlainModel();
            // A small part of the board makes rivals and spellings that are alike frequent.
            int squares = run % 3 == 0 ? 64 : 18;
            while (game.calls() < CALLS) {
                if (ofRecords) {
                    records(random.nextInt(100), squares);
                } else {
                    moves(random.nextInt(100), squares);
                }
            }
            compareAll("at the end of run " + run);
        }
    }

    private void records(int kind, int squares) {
        if (kind < 60) {
            retype(changed(RECORDS[random.nextInt(RECORDS.length)], RECORD_CHARACTERS));
            record();
        } else if (kind < 70) {
            put(random.nextInt(70) - 3, random.nextInt(16) - 1);
        } else if (kind < 76) {
            state();
        } else if (kind < 86) {
            write();
            record();
        } else if (kind < 90) {
            attacked(random.nextInt(66) - 1, random.nextInt(4) - 1);
        } else {
            moves(kind, squares);
        }
    }

    private void moves(int kind, int squares) {
        if (game.calls() < 20) {
            put(random.nextInt(squares), oftenKing(random.nextInt(13)));
        } else if (game.calls() < 80 || kind < 40) {
            tell(randomMove(squares), random.nextInt(30) == 0 ? random.nextInt() : random.nextInt(3));
        } else if (kind < 60) {
            spell(anyMove(squares));
            find();
        } else if (kind < 80) {
            spell(anyMove(squares));
            retype(changed(model.text.length() > 12 ? "Nb1d2+" : model.text, MOVE_CHARACTERS));
            find();
        } else if (kind < 94) {
            retype(randomSpelling(squares));
            find();
        } else if (kind < 97) {
            type(random.nextInt(3) == 0 ? random.nextLong() : random.nextLong() & 0x7F007F00007F7F00L);
        } else if (kind == 97) {
            state();
        } else if (random.nextInt(40) == 0) {
            game.forget();
            model.forget();
        } else {
            attacked(random.nextInt(66) - 1, random.nextInt(4) - 1);
        }
    }

    private int oftenKing(int man) {
        return random.nextInt(4) == 0 ? 6 + 6 * random.nextInt(2) : man;
    }

    private int randomMove(int squares) {
        if (random.nextInt(50) == 0) {
            return random.nextInt();
        }
        int becomes = random.nextInt(3) == 0 ? random.nextInt(8) : 0;
        return random.nextInt(squares) + 64 * random.nextInt(squares) + 4096 * becomes;
    }

    private int anyMove(int squares) {
        List<Integer> moves = model.moves();
        return moves.isEmpty() || random.nextInt(10) == 0 ? randomMove(squares) : moves.get(random.nextInt(moves.size()));
    }

    private String one(String choices) {
        int index = random.nextInt(choices.length());
        return choices.substring(index, index + 1).trim();
    }

    private String randomSpelling(int squares) {
        int square = random.nextInt(squares);
        String to = "" + (char) ('a' + square % 8) + (char) ('1' + square / 8);
        String sign = one("  +#");
        switch (random.nextInt(5)) {
            case 0:
                return (random.nextBoolean() ? "0-0" : "0-0-0") + sign;
            case 1:
                return (random.nextBoolean() ? one("abcdefgh") + "x" : "") + to + one("  QRBN") + sign;
            default:
                return one("KQRBN") + one("    abcdefgh") + one("  123") + one(" x") + to + sign;
        }
    }

    private String changed(String text, String characters) {
        StringBuilder changed = new StringBuilder(text);
        for (int count = random.nextInt(3); count > 0; count--) {
            int place = random.nextInt(changed.length() + 1);
            char put = characters.charAt(random.nextInt(characters.length()));
            int way = random.nextInt(3);
            if (way == 0 || place == changed.length()) {
                changed.insert(place, put);
            } else if (way == 1) {
                changed.deleteCharAt(place);
            } else {
                changed.setCharAt(place, put);
            }
        }
        return changed.toString();
    }

    private void retype(String text) {
        game.wipe();
        model.text = "";
        for (int i = 0; i < text.length(); i += 8) {
            type(Game.part(text.substring(i, Math.min(text.length(), i + 8))));
        }
    }

    private void type(long part) {
        due.is("type(" + part + ")", game.type(part), model.type(part));
    }

    private void record() {
        due.is("record() of '" + model.text + "'", game.record(), model.record());
        due.is("look(6) behind record()", game.look(6), model.look(6));
    }

    private void write() {
        due.is("write()", game.write(), model.write());
        due.is("the record written", game.text(), model.text);
    }

    private void put(int square, int man) {
        due.is("put(" + square + ", " + man + ")", game.put(square, man), model.put(square, man));
    }

    private void state() {
        int[] a = {random.nextInt(4) - 1, random.nextInt(18) - 1, random.nextInt(11) - 2, random.nextInt(1002) - 1,
            random.nextInt(10004) - 2};
        boolean got = game.state(a[0], a[1], a[2], a[3], a[4]);
        due.is("state" + java.util.Arrays.toString(a), got, model.state(a[0], a[1], a[2], a[3], a[4]));
    }

    private void attacked(int square, int side) {
        String call = "attacked(" + square + ", " + side + ")";
        if (square < 0 || square > 63 || side < 0 || side > 1) {
            due.isThrown(call, IndexOutOfBoundsException.class, () -> game.attacked(square, side));
        } else {
            due.is(call, game.attacked(square, side), model.attacked(square, side));
        }
    }

    private void tell(int move, int sign) {
        due.is("tell(" + move + ", " + sign + ")", game.tell(move, sign), model.tell(move, sign));
    }

    private void spell(int move) {
        Integer want = model.spell(move);
        if (want == null) {
            due.isThrown("spell(" + move + ")", IllegalArgumentException.class, () -> game.spell(move));
        } else {
            due.is("spell(" + move + ")", game.spell(move), want);
        }
        due.is("the text behind spell(" + move + ")", game.text(), model.text);
    }

    private void find() {
        due.is("find() of '" + model.text + "'", game.find(), model.find());
    }

    private void compareAll(String when) {
        for (int which = -1; which <= 7; which++) {
            due.is("look(" + which + ") " + when, game.look(which), model.look(which));
        }
        for (int square = -1; square <= 64; square++) {
            due.is("at(" + square + ") " + when, game.at(square), model.at(square));
        }
        due.is("the text " + when, game.text(), model.text);
        due.is("text(-1)", game.text(-1), model.text(-1));
    }
}
