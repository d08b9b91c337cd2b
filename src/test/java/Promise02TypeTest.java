/** Promise 2: type. */
public final class Promise02TypeTest {
    private static final Due DUE = new Due("Promise 2, type");

    public static void main(String[] args) {
        DUE.test("adds the eight bytes of part, the highest first", Promise02TypeTest::highestFirst);
        DUE.test("adds them behind what is there", Promise02TypeTest::behindWhatIsThere);
        DUE.test("bytes that are 0 are passed over, wherever they are", Promise02TypeTest::zeroBytes);
        DUE.test("eight bytes that are 0 add nothing: true", Promise02TypeTest::nothing);
        DUE.test("32 .. 126 are right in each of the eight places", () -> bytes(32, 126, true));
        DUE.test("false if a byte is less than 32, in each of the eight places", () -> bytes(1, 31, false));
        DUE.test("false if a byte is more than 126, in each of the eight places", () -> bytes(127, 255, false));
        DUE.test("false if one byte of eight is wrong, and none is added", Promise02TypeTest::oneWrongOfEight);
        DUE.test("as many as 100: true", Promise02TypeTest::asManyAsThereCanBe);
        DUE.test("false if there would be more than 100, and none is added", Promise02TypeTest::oneTooMany);
        DUE.test("a full text: false for one more, true for none more", Promise02TypeTest::full);
        DUE.test("bytes that are 0 do not count for the 100", Promise02TypeTest::zeroBytesDoNotCount);
        DUE.test("false if a byte is wrong in a full text", Promise02TypeTest::wrongAndTooMany);
        DUE.test("false changes nothing", Promise02TypeTest::refused);
        DUE.test("true changes the text alone", Promise02TypeTest::textAlone);
        DUE.end();
    }

    private static void types(Game game, long part, boolean want, String text) {
        DUE.is("type(" + Long.toHexString(part) + ")", game.type(part), want);
        DUE.is("the text", game.text(), text);
        DUE.is("look(0)", game.look(0), text.length());
    }

    private static Game with(int characters) {
        return new Game().typed("abcdefghij".repeat(10).substring(0, characters));
    }

    private static void highestFirst() {
        types(new Game(), 0x4142434445464748L, true, "ABCDEFGH");
        types(new Game(), 0x7E7D7C7B20212223L, true, "~}|{ !\"#");
    }

    private static void behindWhatIsThere() {
        Game game = new Game();
        types(game, Game.part("abcdefgh"), true, "abcdefgh");
        types(game, Game.part(" "), true, "abcdefgh ");
        types(game, Game.part("ij"), true, "abcdefgh ij");
        types(game, Game.part("klmnopqr"), true, "abcdefgh ijklmnopqr");
    }

    private static void zeroBytes() {
        types(new Game(), 0x0000000000000041L, true, "A");
        types(new Game(), 0x4100000000000000L, true, "A");
        types(new Game(), 0x0041004200430044L, true, "ABCD");
        types(new Game(), 0x4100420043004400L, true, "ABCD");
        types(new Game(), 0x4100000000000042L, true, "AB");
        types(new Game(), 0x0000004142000000L, true, "AB");
    }

    private static void nothing() {
        types(new Game(), 0, true, "");
        types(new Game().typed("ab"), 0, true, "ab");
    }

    private static void bytes(int least, int most, boolean want) {
        for (int code = least; code <= most; code++) {
            for (int shift = 0; shift < 64; shift += 8) {
                types(new Game().typed("a"), (long) code << shift, want, want ? "a" + (char) code : "a");
            }
        }
    }

    private static void oneWrongOfEight() {
        for (int shift = 0; shift < 64; shift += 8) {
            for (long wrong : new long[] {1, 31, 127, 128, 255}) {
                long part = Game.part("ABCDEFGH") & ~(255L << shift) | wrong << shift;
                types(new Game().typed("ab"), part, false, "ab");
            }
        }
        types(new Game(), -1, false, "");
        types(new Game(), Long.MIN_VALUE, false, "");
        types(new Game(), Long.MAX_VALUE, false, "");
    }

    private static void asManyAsThereCanBe() {
        for (int room = 1; room <= 8; room++) {
            Game game = with(100 - room);
            String more = "ABCDEFGH".substring(0, room);
            String whole = game.text() + more;
            types(game, Game.part(more), true, whole);
            DUE.is("text(99)", game.text(99), more.charAt(room - 1));
        }
    }

    private static void oneTooMany() {
        for (int room = 0; room <= 7; room++) {
            Game game = with(100 - room);
            types(game, Game.part("ABCDEFGH".substring(0, room + 1)), false, game.text());
        }
        Game game = with(99);
        types(game, Game.part("ABCDEFGH"), false, game.text());
    }

    private static void full() {
        Game game = with(100);
        String whole = game.text();
        types(game, Game.part("A"), false, whole);
        types(game, 0, true, whole);
    }

    private static void zeroBytesDoNotCount() {
        Game game = with(99);
        String whole = game.text() + "A";
        types(game, 0x0000004100000000L, true, whole);
        Game four = with(96);
        whole = four.text() + "ABCD";
        types(four, 0x4100420043004400L, true, whole);
        Game five = with(96);
        types(five, 0x4100420043004445L, false, five.text());
    }

    private static void wrongAndTooMany() {
        Game game = with(100);
        types(game, 31, false, game.text());
        types(with(99), 0x4101L, false, with(99).text());
    }

    private static void refused() {
        Game game = Game.sample();
        game.type(Game.part("abcdefg\n"));
        game.type(-1);
        DUE.is("what is left", game.seen(), Game.sample().seen());
        Game full = Game.sample().typed("x".repeat(100));
        full.type('x');
        DUE.is("what is left", full.seen(), Game.sample().typed("x".repeat(100)).seen());
    }

    private static void textAlone() {
        Game game = Game.sample();
        game.type('x');
        DUE.is("look(6)", game.look(6), 6);
        DUE.is("the moves", game.seenMoves(), "6 b8Q# bxa8N Qxa8+ 0-0 Nd5 Kh7+");
        game.write();
        DUE.is("the position", game.text(), Game.SAMPLE);
    }
}
