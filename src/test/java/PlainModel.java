import java.util.ArrayList;
import java.util.Arrays;
import java.util.LinkedHashMap;
import java.util.List;
import java.util.Map;
import java.util.regex.Matcher;
import java.util.regex.Pattern;

/** The document's words a second time, by regular expressions and collections, to compare the class with. */
final class PlainModel {
    private static final String LETTERS = ".PNBRQKpnbrqk";
    private static final Pattern CASTLES = Pattern.compile("(0-0(?:-0)?)([+#]?)");
    private static final Pattern MAN = Pattern.compile("([KQRBN])[a-h]?[1-8]?x?([a-h][1-8])([+#]?)");
    private static final Pattern PAWN = Pattern.compile("(?:[a-h]x)?([a-h][1-8])([QRBN]?)([+#]?)");

    String text = "";
    private char[] board = new char[64];
    private int side;
    private int rights;
    private int passant = -1;
    private int clock;
    private int number = 1;
    private final Map<Integer, Integer> told = new LinkedHashMap<>();

    PlainModel() {
        Arrays.fill(board, '.');
    }

    boolean type(long part) {
        StringBuilder added = new StringBuilder();
        for (byte b : java.nio.ByteBuffer.allocate(8).putLong(part).array()) {
            if (b != 0) {
                added.append((char) (b & 255));
            }
        }
        boolean right = added.chars().allMatch(c -> c >= 32 && c <= 126) && text.length() + added.length() <= 100;
        text = right ? text + added : text;
        return right;
    }

    int text(int i) {
        return i < 0 || i >= text.length() ? -1 : text.charAt(i);
    }

    int record() {
        String[] patterns = {"[PNBRQKpnbrqk1-8/]+", "[wb]", "-|(?=.)K?Q?k?q?", null, "0|[1-9][0-9]{0,2}", "[1-9][0-9]{0,3}"};
        String[] fields = new String[6];
        String rest = text;
        for (int i = 0; i < 6; i++) {
            if (i == 3) {
                patterns[i] = fields[1].equals("w") ? "-|[a-h]6" : "-|[a-h]3";
            }
            int cut = i == 5 ? rest.length() : rest.indexOf(' ');
            if (cut < 0 || !rest.substring(0, cut).matches(patterns[i])) {
                return i + 1;
            }
            fields[i] = rest.substring(0, cut);
            rest = i == 5 ? "" : rest.substring(cut + 1);
            if (i == 0 && boardOf(fields[0]) == null) {
                return 1;
            }
        }
        PlainModel read = new PlainModel();
        read.board = boardOf(fields[0]);
        read.side = fields[1].equals("w") ? 0 : 1;
        for (int i = 0; i < 4; i++) {
            read.rights += fields[2].indexOf("KQkq".charAt(i)) >= 0 ? 1 << i : 0;
        }
        read.passant = fields[3].equals("-") ? -1 : fields[3].charAt(0) - 'a';
        read.clock = Integer.parseInt(fields[4]);
        read.number = Integer.parseInt(fields[5]);
        int fault = read.fault();
        if (fault == 0) {
            board = read.board;
            state(read.side, read.rights, read.passant, read.clock, read.number);
            told.clear();
        }
        return fault;
    }

    private static char[] boardOf(String field) {
        String[] ranks = field.split("/", -1);
        if (ranks.length != 8 || field.matches(".*[1-8][1-8].*")) {
            return null;
        }
        StringBuilder all = new StringBuilder();
        for (int i = 7; i >= 0; i--) {
            StringBuilder rank = new StringBuilder();
            for (char c : ranks[i].toCharArray()) {
                rank.append(Character.isDigit(c) ? ".".repeat(c - '0') : String.valueOf(c));
            }
            if (rank.length() != 8) {
                return null;
            }
            all.append(rank);
        }
        return all.toString().toCharArray();
    }

    private int fault() {
        String men = new String(board);
        if (count(men, 'K') != 1 || count(men, 'k') != 1) {
            return 7;
        }
        if ((men.substring(0, 8) + men.substring(56)).matches(".*[Pp].*") || crowd(men, "PNBRQ") || crowd(men, "pnbrq")) {
            return 8;
        }
        String[] homes = {"e1Kh1R", "e1Ka1R", "e8kh8r", "e8ka8r"};
        for (int i = 0; i < 4; i++) {
            String home = homes[i];
            boolean stands = board[Game.square(home)] == home.charAt(2) && board[Game.square(home.substring(3))] == home.charAt(5);
            if ((rights & 1 << i) != 0 && !stands) {
                return 9;
            }
        }
        if (passant >= 0) {
            String column = "";
            for (int rank = 0; rank < 8; rank++) {
                column += board[passant + 8 * rank];
            }
            if (clock != 0 || !column.matches(side == 0 ? "....p\\.\\.." : ".\\.\\.P....")) {
                return 10;
            }
        }
        return attacked(men.indexOf(side == 0 ? 'k' : 'K'), side) ? 11 : 0;
    }

    private static int count(String men, char man) {
        return (int) men.chars().filter(c -> c == man).count();
    }

    private static boolean crowd(String men, String of) {
        int[] usual = {8, 2, 2, 2, 1};
        int left = 8 - count(men, of.charAt(0));
        int extra = 0;
        for (int i = 1; i < 5; i++) {
            int above = count(men, of.charAt(i)) - usual[i];
            extra += above > 0 ? above : 0;
        }
        return left < 0 || extra > left;
    }

    boolean attacked(int square, int by) {
        for (int from = 0; from < 64; from++) {
            char man = board[from];
            if (man == '.' || Character.isUpperCase(man) != (by == 0) || from == square) {
                continue;
            }
            if (reaches(Character.toUpperCase(man), from, square, by == 0 ? 1 : -1)) {
                return true;
            }
        }
        return false;
    }

    private boolean reaches(char kind, int from, int to, int ahead) {
        int files = to % 8 - from % 8;
        int ranks = to / 8 - from / 8;
        int wide = Math.abs(files);
        int high = Math.abs(ranks);
        boolean straight = files == 0 || ranks == 0;
        boolean askew = wide == high;
        switch (kind) {
            case 'P':
                return wide == 1 && ranks == ahead;
            case 'N':
                return wide * high == 2;
            case 'K':
                return Math.max(wide, high) == 1;
            case 'B':
                return askew && open(from, to);
            case 'R':
                return straight && open(from, to);
            default:
                return (askew || straight) && open(from, to);
        }
    }

    private boolean open(int from, int to) {
        int step = Integer.signum(to % 8 - from % 8) + 8 * Integer.signum(to / 8 - from / 8);
        for (int square = from + step; square != to; square += step) {
            if (board[square] != '.') {
                return false;
            }
        }
        return true;
    }

    int write() {
        List<String> ranks = new ArrayList<>();
        for (int rank = 7; rank >= 0; rank--) {
            String row = new String(board, 8 * rank, 8);
            for (int empty = 8; empty > 0; empty--) {
                row = row.replace(".".repeat(empty), String.valueOf(empty));
            }
            ranks.add(row);
        }
        String castling = "";
        for (int i = 0; i < 4; i++) {
            castling += (rights & 1 << i) != 0 ? "KQkq".substring(i, i + 1) : "";
        }
        String behind = passant < 0 ? "-" : (char) ('a' + passant) + (side == 0 ? "6" : "3");
        text = String.join(" ", String.join("/", ranks), side == 0 ? "w" : "b", castling.isEmpty() ? "-" : castling, behind,
                String.valueOf(clock), String.valueOf(number));
        return text.length();
    }

    boolean put(int square, int man) {
        if (square < 0 || square > 63 || man < 0 || man > 12) {
            return false;
        }
        board[square] = LETTERS.charAt(man);
        told.clear();
        return true;
    }

    boolean state(int newSide, int newRights, int newPassant, int newClock, int newNumber) {
        boolean right = (newSide == 0 || newSide == 1) && newRights >= 0 && newRights < 16 && newPassant >= -1 && newPassant < 8
                && newClock >= 0 && newClock < 1000 && newNumber > 0 && newNumber < 10000;
        if (right) {
            side = newSide;
            rights = newRights;
            passant = newPassant;
            clock = newClock;
            number = newNumber;
        }
        return right;
    }

    int at(int square) {
        return square < 0 || square > 63 ? -1 : LETTERS.indexOf(board[square]);
    }

    boolean tell(int move, int sign) {
        if (move < 0 || move >= 6 * 4096 || move / 4096 == 1 || sign < 0 || sign > 2 || told.size() == 330 || told.containsKey(move)) {
            return false;
        }
        char man = board[move % 64];
        if (move % 64 == move / 64 % 64 || man == '.' || (move >= 4096 && "Pp".indexOf(man) < 0)) {
            return false;
        }
        told.put(move, sign);
        return true;
    }

    void forget() {
        told.clear();
    }

    /** The number of characters, or null for the exception. */
    Integer spell(int move) {
        if (!told.containsKey(move)) {
            return null;
        }
        text = unsigned(move) + sign(move);
        return text.length();
    }

    private String sign(int move) {
        return new String[] {"", "+", "#"}[told.get(move)];
    }

    private static String name(int square) {
        return "" + (char) ('a' + square % 8) + (char) ('1' + square / 8);
    }

    private String castling(int move) {
        int files = move / 64 % 8 - move % 8;
        if ("Kk".indexOf(board[move % 64]) < 0 || Math.abs(files) < 2) {
            return "";
        }
        return files > 0 ? "0-0" : "0-0-0";
    }

    private String unsigned(int move) {
        String castling = castling(move);
        if (!castling.isEmpty()) {
            return castling;
        }
        String from = name(move % 64);
        String to = name(move / 64 % 64);
        char kind = Character.toUpperCase(board[move % 64]);
        if (kind == 'P') {
            String takes = from.charAt(0) == to.charAt(0) ? "" : from.charAt(0) + "x";
            return takes + to + (move < 4096 ? "" : LETTERS.substring(move / 4096, move / 4096 + 1));
        }
        return kind + origin(move, from) + (board[move / 64 % 64] == '.' ? "" : "x") + to;
    }

    private String origin(int move, String from) {
        List<String> rivals = new ArrayList<>();
        for (int other : told.keySet()) {
            if (other / 64 % 64 == move / 64 % 64 && other % 64 != move % 64 && board[other % 64] == board[move % 64]) {
                rivals.add(name(other % 64));
            }
        }
        if (rivals.isEmpty()) {
            return "";
        }
        if (rivals.stream().noneMatch(rival -> rival.charAt(0) == from.charAt(0))) {
            return from.substring(0, 1);
        }
        return rivals.stream().noneMatch(rival -> rival.charAt(1) == from.charAt(1)) ? from.substring(1) : from;
    }

    int find() {
        for (int move : told.keySet()) {
            if (text.equals(unsigned(move) + sign(move))) {
                return move;
            }
        }
        Matcher castles = CASTLES.matcher(text);
        Matcher man = MAN.matcher(text);
        Matcher pawn = PAWN.matcher(text);
        if (!castles.matches() & !man.matches() & !pawn.matches()) {
            return -1;
        }
        int answer = -2;
        for (int move : told.keySet()) {
            String to = name(move / 64 % 64);
            String kind = String.valueOf(Character.toUpperCase(board[move % 64]));
            String letter = move < 4096 ? "" : LETTERS.substring(move / 4096, move / 4096 + 1);
            boolean meant;
            if (castles.matches()) {
                meant = castling(move).equals(castles.group(1));
            } else if (!castling(move).isEmpty()) {
                meant = false;
            } else if (man.matches()) {
                meant = kind.equals(man.group(1)) && to.equals(man.group(2));
            } else {
                meant = kind.equals("P") && to.equals(pawn.group(1)) && letter.equals(pawn.group(2));
            }
            if (meant) {
                boolean spelled = unsigned(move).equals(text.replaceAll("[+#]$", ""));
                answer = Math.min(answer, spelled ? -4 : -3);
            }
        }
        return answer;
    }

    int look(int which) {
        int[] all = {text.length(), side, rights, passant, clock, number, told.size()};
        return which < 0 || which > 6 ? -1 : all[which];
    }

    List<Integer> moves() {
        return new ArrayList<>(told.keySet());
    }
}
