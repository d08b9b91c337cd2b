/** The notation of chess: records of positions and spellings of moves, read and written. */
public final class GameNotation {
    public static final int NONE = -1;

    private static final int SQUARE_COUNT = 64;
    private static final int EDGE = 8;
    private static final int KINDS = 6;
    private static final int MEN = 12;

    private static final int PAWN = 1;
    private static final int KNIGHT = 2;
    private static final int BISHOP = 3;
    private static final int ROOK = 4;
    private static final int QUEEN = 5;
    private static final int KING = 6;

    private static final int WHITE = 0;
    private static final int BLACK = 1;

    private static final int ALL_RIGHTS = 15;
    private static final int MOST_CLOCK = 999;
    private static final int MOST_NUMBER = 9999;
    private static final int LONGEST_TEXT = 100;
    private static final int MOST_TOLD = 330;
    private static final int MOST_SIGN = 2;

    private static final int NO_FORM = -1;
    private static final int NOT_TOLD = -2;
    private static final int OTHERWISE_SPELLED = -3;
    private static final int OTHERWISE_SIGNED = -4;
    private static final int SPELLED_SO = 0;

    private static final char NO_LETTER = 0;
    private static final String MAN_LETTERS = "PNBRQKpnbrqk";
    private static final String SIDE_LETTERS = "wb";
    private static final String RIGHT_LETTERS = "KQkq";
    private static final String FILE_LETTERS = "abcdefgh";
    private static final String RANK_LETTERS = "12345678";
    private static final String SIGN_LETTERS = "+#";
    private static final String CASTLING_UP = "0-0";
    private static final String CASTLING_DOWN = "0-0-0";

    private static final int[] KNIGHT_FILES = {1, 2, 2, 1, -1, -2, -2, -1};
    private static final int[] KNIGHT_RANKS = {2, 1, -1, -2, -2, -1, 1, 2};
    private static final int[] STRAIGHT_FILES = {1, 0, -1, 0};
    private static final int[] STRAIGHT_RANKS = {0, 1, 0, -1};
    private static final int[] ASKEW_FILES = {1, -1, -1, 1};
    private static final int[] ASKEW_RANKS = {1, 1, -1, -1};

    private final Line line;
    private final Line trial;
    private final RecordReader reader;
    private final Told told;
    private final Form form;
    private Position position;
    // A record is read into this one, so that one that is refused leaves the position alone.
    private Position spare;

    public GameNotation() {
        line = new Line();
        trial = new Line();
        reader = new RecordReader();
        told = new Told();
        form = new Form();
        position = new Position();
        spare = new Position();
    }

    public boolean type(long part) {
        int added = 0;
        for (int shift = 56; shift >= 0; shift -= 8) {
            int code = byteOf(part, shift);
            if (code != 0 && (code < 32 || code > 126)) {
                return false;
            }
            if (code != 0) {
                added++;
            }
        }
        if (line.size() + added > LONGEST_TEXT) {
            return false;
        }
        for (int shift = 56; shift >= 0; shift -= 8) {
            int code = byteOf(part, shift);
            if (code != 0) {
                line.add((char) code);
            }
        }
        return true;
    }

    public void wipe() {
        line.clear();
    }

    public int text(int i) {
        return i >= 0 && i < line.size() ? line.letter(i) : NONE;
    }

    public int record() {
        int fault = reader.readInto(spare, line);
        if (fault == 0) {
            fault = spare.firstFault();
        }
        if (fault == 0) {
            Position former = position;
            position = spare;
            spare = former;
            told.clear();
        }
        return fault;
    }

    public int write() {
        line.clear();
        addRanks();
        line.add(' ');
        line.add(pick(SIDE_LETTERS, position.side));
        line.add(' ');
        addRights();
        line.add(' ');
        addPassant();
        line.add(' ');
        line.addNumber(position.clock);
        line.add(' ');
        line.addNumber(position.number);
        return line.size();
    }

    public boolean put(int square, int man) {
        if (!isSquare(square) || man < 0 || man > MEN) {
            return false;
        }
        position.place(square, man);
        told.clear();
        return true;
    }

    public boolean state(int side, int rights, int passant, int clock, int number) {
        if (!isSide(side) || rights < 0 || rights > ALL_RIGHTS) {
            return false;
        }
        if (passant != NONE && (passant < 0 || passant >= EDGE)) {
            return false;
        }
        if (clock < 0 || clock > MOST_CLOCK || number < 1 || number > MOST_NUMBER) {
            return false;
        }
        position.side = side;
        position.rights = rights;
        position.passant = passant;
        position.clock = clock;
        position.number = number;
        return true;
    }

    public int at(int square) {
        return position.manOn(square);
    }

    public boolean attacked(int square, int side) throws IndexOutOfBoundsException {
        if (!isSquare(square) || !isSide(side)) {
            throw new IndexOutOfBoundsException("no such square or side");
        }
        return position.isAttacked(square, side);
    }

    public boolean tell(int move, int sign) {
        if (!isMove(move) || sign < 0 || sign > MOST_SIGN || fromOf(move) == toOf(move)) {
            return false;
        }
        int man = position.manOn(fromOf(move));
        if (man <= 0 || (becomesOf(move) != 0 && kindOf(man) != PAWN)) {
            return false;
        }
        return told.take(move, sign);
    }

    public void forget() {
        told.clear();
    }

    public int spell(int move) throws IllegalArgumentException {
        int index = told.indexOf(move);
        if (index == NONE) {
            throw new IllegalArgumentException("the move was not told");
        }
        line.clear();
        told.addUnsigned(line, index, position);
        int sign = told.sign(index);
        if (sign > 0) {
            line.add(pick(SIGN_LETTERS, sign - 1));
        }
        return line.size();
    }

    public int find() {
        if (!form.isOf(line)) {
            return NO_FORM;
        }
        int closest = NOT_TOLD;
        for (int i = 0; i < told.count(); i++) {
            int closeness = closeness(i);
            if (closeness == SPELLED_SO) {
                return told.move(i);
            }
            closest = Math.min(closest, closeness);
        }
        return closest;
    }

    public int look(int which) {
        switch (which) {
            case 0:
                return line.size();
            case 1:
                return position.side;
            case 2:
                return position.rights;
            case 3:
                return position.passant;
            case 4:
                return position.clock;
            case 5:
                return position.number;
            case 6:
                return told.count();
            default:
                return NONE;
        }
    }

    private void addRanks() {
        for (int rank = EDGE - 1; rank >= 0; rank--) {
            addRank(rank);
            if (rank > 0) {
                line.add('/');
            }
        }
    }

    private void addRank(int rank) {
        int empty = 0;
        for (int file = 0; file < EDGE; file++) {
            int man = position.manAt(file, rank);
            if (man > 0) {
                addEmpty(empty);
                line.add(pick(MAN_LETTERS, man - 1));
                empty = 0;
            } else {
                empty++;
            }
        }
        addEmpty(empty);
    }

    private void addEmpty(int empty) {
        if (empty > 0) {
            line.addNumber(empty);
        }
    }

    private void addRights() {
        if (position.rights == 0) {
            line.add('-');
        }
        for (int i = 0; i < RIGHT_LETTERS.length(); i++) {
            if (position.hasRight(i)) {
                line.add(pick(RIGHT_LETTERS, i));
            }
        }
    }

    private void addPassant() {
        if (position.passant == NONE) {
            line.add('-');
        } else {
            line.add(pick(FILE_LETTERS, position.passant));
            line.add(passantRank(position.side));
        }
    }

    /** How near the told move of an index comes to the form that was read: an answer of find, or SPELLED_SO. */
    private int closeness(int index) {
        if (!form.fits(told.move(index), position)) {
            return NOT_TOLD;
        }
        trial.clear();
        told.addUnsigned(trial, index, position);
        if (!line.beginsWith(trial, form.unsignedSize())) {
            return OTHERWISE_SPELLED;
        }
        return told.sign(index) == form.sign() ? SPELLED_SO : OTHERWISE_SIGNED;
    }

    private static int byteOf(long part, int shift) {
        return (int) (part >>> shift) & 255;
    }

    private static char pick(String letters, int index) {
        return index >= 0 && index < letters.length() ? letters.charAt(index) : NO_LETTER;
    }

    private static boolean isSquare(int square) {
        return square >= 0 && square < SQUARE_COUNT;
    }

    private static boolean isSide(int side) {
        return side == WHITE || side == BLACK;
    }

    private static int fileOf(int square) {
        return square % EDGE;
    }

    private static int rankOf(int square) {
        return square / EDGE;
    }

    private static int squareOf(int file, int rank) {
        if (file < 0 || file >= EDGE || rank < 0 || rank >= EDGE) {
            return NONE;
        }
        return rank * EDGE + file;
    }

    private static int manOf(int kind, int side) {
        return side == WHITE ? kind : kind + KINDS;
    }

    private static int kindOf(int man) {
        return man > KINDS ? man - KINDS : man;
    }

    /** The rank of a side as that side counts it, both from 0 on. */
    private static int ownRank(int rank, int side) {
        return side == WHITE ? rank : EDGE - 1 - rank;
    }

    private static char passantRank(int side) {
        return side == WHITE ? '6' : '3';
    }

    private static boolean isMove(int move) {
        int becomes = becomesOf(move);
        return move >= 0 && (becomes == 0 || isPromotion(becomes));
    }

    private static boolean isPromotion(int kind) {
        return kind >= KNIGHT && kind <= QUEEN;
    }

    private static int fromOf(int move) {
        return move & 63;
    }

    private static int toOf(int move) {
        return (move >> 6) & 63;
    }

    private static int becomesOf(int move) {
        return move >> 12;
    }

    /** 1 if the move castles to a higher file, -1 if to a lower one, 0 if it does not castle. */
    private static int castlingOf(int move, Position position) {
        if (kindOf(position.manOn(fromOf(move))) != KING) {
            return 0;
        }
        int files = fileOf(toOf(move)) - fileOf(fromOf(move));
        if (files >= 2) {
            return 1;
        }
        return files <= -2 ? -1 : 0;
    }

    /** A row of characters with room for the longest text. */
    private static final class Line {
        private final char[] letters = new char[LONGEST_TEXT];
        private int size;

        int size() {
            return size;
        }

        void clear() {
            size = 0;
        }

        char letter(int i) {
            return i >= 0 && i < size ? letters[i] : NO_LETTER;
        }

        void add(char letter) {
            if (size < LONGEST_TEXT) {
                letters[size] = letter;
                size++;
            }
        }

        void addAll(String added) {
            for (int i = 0; i < added.length(); i++) {
                add(added.charAt(i));
            }
        }

        /** The number is one of 0 .. 9999. */
        void addNumber(int number) {
            for (int unit = 1000; unit > 0; unit /= 10) {
                if (number >= unit || unit == 1) {
                    add((char) ('0' + number / unit % 10));
                }
            }
        }

        void addSquare(int square) {
            add(pick(FILE_LETTERS, fileOf(square)));
            add(pick(RANK_LETTERS, rankOf(square)));
        }

        /** Whether the first characters, so many of them, are those of the other line, all of them. */
        boolean beginsWith(Line other, int count) {
            if (other.size != count) {
                return false;
            }
            for (int i = 0; i < other.size; i++) {
                if (letter(i) != other.letter(i)) {
                    return false;
                }
            }
            return true;
        }

        /** Whether the first characters, so many of them, are those of the word, all of them. */
        boolean beginsWithWord(String word, int count) {
            if (word.length() != count) {
                return false;
            }
            for (int i = 0; i < word.length(); i++) {
                if (letter(i) != word.charAt(i)) {
                    return false;
                }
            }
            return true;
        }
    }

    /** The board and what belongs to it. */
    private static final class Position {
        private final int[] men = new int[SQUARE_COUNT];
        private int side;
        private int rights;
        private int passant = NONE;
        private int clock;
        private int number = 1;

        void clearBoard() {
            for (int square = 0; square < SQUARE_COUNT; square++) {
                men[square] = 0;
            }
        }

        void place(int square, int man) {
            if (isSquare(square)) {
                men[square] = man;
            }
        }

        int manOn(int square) {
            return square >= 0 && square < SQUARE_COUNT ? men[square] : NONE;
        }

        int manAt(int file, int rank) {
            boolean onBoard = file >= 0 && file < EDGE && rank >= 0 && rank < EDGE;
            return onBoard ? men[rank * EDGE + file] : NONE;
        }

        boolean hasRight(int which) {
            return (rights >> which & 1) != 0;
        }

        /** The number of the first fault of a position that was read, 0 if it is RIGHT. */
        int firstFault() {
            if (count(manOf(KING, WHITE)) != 1 || count(manOf(KING, BLACK)) != 1) {
                return 7;
            }
            if (hasMisplacedPawn() || hasTooMany(WHITE) || hasTooMany(BLACK)) {
                return 8;
            }
            if (!rightsHold()) {
                return 9;
            }
            if (passant != NONE && !passantHolds()) {
                return 10;
            }
            return isAttacked(kingSquare(1 - side), side) ? 11 : 0;
        }

        boolean isAttacked(int square, int by) {
            return isNear(square, manOf(KNIGHT, by), KNIGHT_FILES, KNIGHT_RANKS)
                    || isNear(square, manOf(KING, by), STRAIGHT_FILES, STRAIGHT_RANKS)
                    || isNear(square, manOf(KING, by), ASKEW_FILES, ASKEW_RANKS)
                    || isAttackedByPawn(square, by)
                    || isInLine(square, manOf(ROOK, by), by, STRAIGHT_FILES, STRAIGHT_RANKS)
                    || isInLine(square, manOf(BISHOP, by), by, ASKEW_FILES, ASKEW_RANKS);
        }

        private boolean isNear(int square, int man, int[] files, int[] ranks) {
            for (int i = 0; i < files.length && i < ranks.length; i++) {
                if (manAt(fileOf(square) + files[i], rankOf(square) + ranks[i]) == man) {
                    return true;
                }
            }
            return false;
        }

        private boolean isAttackedByPawn(int square, int by) {
            int pawn = manOf(PAWN, by);
            int rank = by == WHITE ? rankOf(square) - 1 : rankOf(square) + 1;
            return manAt(fileOf(square) - 1, rank) == pawn || manAt(fileOf(square) + 1, rank) == pawn;
        }

        private boolean isInLine(int square, int man, int by, int[] files, int[] ranks) {
            for (int i = 0; i < files.length && i < ranks.length; i++) {
                int first = firstInLine(square, files[i], ranks[i]);
                if (first == man || first == manOf(QUEEN, by)) {
                    return true;
                }
            }
            return false;
        }

        /** The first man from a square on in a direction, NONE if there is none up to the edge. */
        private int firstInLine(int square, int files, int ranks) {
            for (int step = 1; step < EDGE; step++) {
                int man = manAt(fileOf(square) + step * files, rankOf(square) + step * ranks);
                if (man != 0) {
                    return man;
                }
            }
            return NONE;
        }

        private int count(int man) {
            int count = 0;
            for (int square = 0; square < SQUARE_COUNT; square++) {
                if (men[square] == man) {
                    count++;
                }
            }
            return count;
        }

        private int kingSquare(int of) {
            for (int square = 0; square < SQUARE_COUNT; square++) {
                if (men[square] == manOf(KING, of)) {
                    return square;
                }
            }
            return NONE;
        }

        private boolean hasMisplacedPawn() {
            for (int file = 0; file < EDGE; file++) {
                if (kindOf(manAt(file, 0)) == PAWN || kindOf(manAt(file, EDGE - 1)) == PAWN) {
                    return true;
                }
            }
            return false;
        }

        private boolean hasTooMany(int of) {
            int extra = extra(KNIGHT, of, 2) + extra(BISHOP, of, 2) + extra(ROOK, of, 2) + extra(QUEEN, of, 1);
            // More than eight pawns leave a number below 0 here, which is less than any extra.
            return extra > 8 - count(manOf(PAWN, of));
        }

        private int extra(int kind, int of, int usual) {
            return Math.max(0, count(manOf(kind, of)) - usual);
        }

        private boolean rightsHold() {
            for (int which = 0; which < RIGHT_LETTERS.length(); which++) {
                if (hasRight(which) && !rightHolds(which)) {
                    return false;
                }
            }
            return true;
        }

        private boolean rightHolds(int which) {
            int of = which < 2 ? WHITE : BLACK;
            int rookFile = which % 2 == 0 ? 7 : 0;
            int rank = ownRank(0, of);
            return manAt(4, rank) == manOf(KING, of) && manAt(rookFile, rank) == manOf(ROOK, of);
        }

        private boolean passantHolds() {
            int of = 1 - side;
            return manAt(passant, ownRank(3, of)) == manOf(PAWN, of)
                    && manAt(passant, ownRank(2, of)) == 0
                    && manAt(passant, ownRank(1, of)) == 0
                    && clock == 0;
        }
    }

    /** Reads the six fields of a record, the first not as said being told by its number. */
    private static final class RecordReader {
        private int place;

        /** The number of the first field that is not as said, 0 if there is none. */
        int readInto(Position position, Line line) {
            place = 0;
            position.clearBoard();
            if (!readRanks(position, line) || !passes(line, ' ')) {
                return 1;
            }
            if (!readSide(position, line) || !passes(line, ' ')) {
                return 2;
            }
            if (!readRights(position, line) || !passes(line, ' ')) {
                return 3;
            }
            if (!readPassant(position, line) || !passes(line, ' ')) {
                return 4;
            }
            position.clock = readNumber(line, MOST_CLOCK);
            if (position.clock == NONE || !passes(line, ' ')) {
                return 5;
            }
            position.number = readNumber(line, MOST_NUMBER);
            return position.number < 1 || place != line.size() ? 6 : 0;
        }

        private boolean passes(Line line, char letter) {
            if (line.letter(place) != letter) {
                return false;
            }
            place++;
            return true;
        }

        private boolean readRanks(Position position, Line line) {
            for (int rank = EDGE - 1; rank >= 0; rank--) {
                if (!readRank(position, line, rank)) {
                    return false;
                }
                if (rank > 0 && !passes(line, '/')) {
                    return false;
                }
            }
            return true;
        }

        private boolean readRank(Position position, Line line, int rank) {
            int file = 0;
            boolean behindDigit = false;
            // Eight characters are the most that eight squares can take.
            for (int turn = 0; turn < EDGE && file < EDGE; turn++) {
                int empty = RANK_LETTERS.indexOf(line.letter(place)) + 1;
                int man = MAN_LETTERS.indexOf(line.letter(place)) + 1;
                if (man == 0 && (empty == 0 || behindDigit)) {
                    return false;
                }
                if (man > 0) {
                    position.place(squareOf(file, rank), man);
                }
                file += man > 0 ? 1 : empty;
                behindDigit = man == 0;
                place++;
            }
            return file == EDGE;
        }

        private boolean readSide(Position position, Line line) {
            position.side = passes(line, 'b') ? BLACK : WHITE;
            return position.side == BLACK || passes(line, 'w');
        }

        private boolean readRights(Position position, Line line) {
            position.rights = 0;
            if (passes(line, '-')) {
                return true;
            }
            for (int i = 0; i < RIGHT_LETTERS.length(); i++) {
                if (passes(line, pick(RIGHT_LETTERS, i))) {
                    position.rights += 1 << i;
                }
            }
            return position.rights != 0;
        }

        private boolean readPassant(Position position, Line line) {
            position.passant = NONE;
            if (passes(line, '-')) {
                return true;
            }
            position.passant = FILE_LETTERS.indexOf(line.letter(place));
            place++;
            return position.passant >= 0 && passes(line, passantRank(position.side));
        }

        /** The number that stands here; NONE if there is none, or it has a 0 ahead, or it is more than most. */
        private int readNumber(Line line, int most) {
            int first = place;
            int number = 0;
            // A fifth digit makes any number too large, so what stands behind it does not matter.
            for (int turn = 0; turn < 5 && isDigit(line.letter(place)); turn++) {
                number = number * 10 + (line.letter(place) - '0');
                place++;
            }
            int digits = place - first;
            boolean zeroAhead = digits > 1 && line.letter(first) == '0';
            return digits == 0 || zeroAhead || number > most ? NONE : number;
        }

        private static boolean isDigit(char letter) {
            return letter >= '0' && letter <= '9';
        }
    }

    /** The moves that are told, in their order, and how each is spelled among them. */
    private static final class Told {
        private final int[] moves = new int[MOST_TOLD];
        private final int[] signs = new int[MOST_TOLD];
        private int count;

        int count() {
            return count;
        }

        void clear() {
            count = 0;
        }

        int move(int index) {
            return has(index) ? moves[index] : NONE;
        }

        int sign(int index) {
            return has(index) ? signs[index] : NONE;
        }

        int indexOf(int move) {
            for (int i = 0; i < count && i < MOST_TOLD; i++) {
                if (moves[i] == move) {
                    return i;
                }
            }
            return NONE;
        }

        boolean take(int move, int sign) {
            if (count >= MOST_TOLD || indexOf(move) != NONE) {
                return false;
            }
            moves[count] = move;
            signs[count] = sign;
            count++;
            return true;
        }

        /** Adds the spelling of a told move without its sign. */
        void addUnsigned(Line line, int index, Position position) {
            int move = move(index);
            int castling = castlingOf(move, position);
            if (castling != 0) {
                line.addAll(castling > 0 ? CASTLING_UP : CASTLING_DOWN);
            } else if (kindOf(position.manOn(fromOf(move))) == PAWN) {
                addPawnMove(line, move);
            } else {
                addManMove(line, move, position);
            }
        }

        private boolean has(int index) {
            return index >= 0 && index < count && index < MOST_TOLD;
        }

        private static void addPawnMove(Line line, int move) {
            int file = fileOf(fromOf(move));
            if (file != fileOf(toOf(move))) {
                line.add(pick(FILE_LETTERS, file));
                line.add('x');
            }
            line.addSquare(toOf(move));
            if (becomesOf(move) != 0) {
                line.add(pick(MAN_LETTERS, becomesOf(move) - 1));
            }
        }

        private void addManMove(Line line, int move, Position position) {
            line.add(pick(MAN_LETTERS, kindOf(position.manOn(fromOf(move))) - 1));
            addOrigin(line, move, position);
            if (position.manOn(toOf(move)) != 0) {
                line.add('x');
            }
            line.addSquare(toOf(move));
        }

        private void addOrigin(Line line, int move, Position position) {
            int from = fromOf(move);
            boolean rivalled = false;
            boolean fileShared = false;
            boolean rankShared = false;
            for (int i = 0; i < count; i++) {
                if (isRival(move(i), move, position)) {
                    int rival = fromOf(move(i));
                    rivalled = true;
                    fileShared = fileShared || fileOf(rival) == fileOf(from);
                    rankShared = rankShared || rankOf(rival) == rankOf(from);
                }
            }
            if (rivalled && (!fileShared || rankShared)) {
                line.add(pick(FILE_LETTERS, fileOf(from)));
            }
            if (fileShared) {
                line.add(pick(RANK_LETTERS, rankOf(from)));
            }
        }

        private static boolean isRival(int other, int move, Position position) {
            return toOf(other) == toOf(move)
                    && fromOf(other) != fromOf(move)
                    && position.manOn(fromOf(other)) == position.manOn(fromOf(move));
        }
    }

    /** What a text says of a move, if it has the FORM of a spelling. */
    private static final class Form {
        private int unsignedSize;
        private int sign;
        private int castling;
        private int kind;
        private int target;
        private int becomes;

        int unsignedSize() {
            return unsignedSize;
        }

        int sign() {
            return sign;
        }

        /** Whether the line has the form; what it says is then kept here. */
        boolean isOf(Line line) {
            sign = SIGN_LETTERS.indexOf(line.letter(line.size() - 1)) + 1;
            unsignedSize = sign > 0 ? line.size() - 1 : line.size();
            return isCastling(line) || isManMove(line) || isPawnMove(line);
        }

        /** Whether a move is of that man, to that square, with that letter behind it, or castles to that side. */
        boolean fits(int move, Position position) {
            int moveCastling = castlingOf(move, position);
            if (castling != 0 || moveCastling != 0) {
                return castling == moveCastling;
            }
            return kindOf(position.manOn(fromOf(move))) == kind
                    && toOf(move) == target
                    && becomesOf(move) == becomes;
        }

        private boolean isCastling(Line line) {
            castling = 0;
            if (line.beginsWithWord(CASTLING_UP, unsignedSize)) {
                castling = 1;
            } else if (line.beginsWithWord(CASTLING_DOWN, unsignedSize)) {
                castling = -1;
            }
            return castling != 0;
        }

        // Read from the back: a file or rank ahead of the square can then not be taken for the square's own.
        private boolean isManMove(Line line) {
            int place = unsignedSize - 2;
            kind = MAN_LETTERS.indexOf(line.letter(0)) + 1;
            target = squareIn(line, place);
            becomes = 0;
            if (kind < KNIGHT || kind > KING || target == NONE) {
                return false;
            }
            if (line.letter(place - 1) == 'x') {
                place--;
            }
            if (rankIn(line, place - 1) >= 0) {
                place--;
            }
            if (fileIn(line, place - 1) >= 0) {
                place--;
            }
            return place == 1;
        }

        private boolean isPawnMove(Line line) {
            int last = MAN_LETTERS.indexOf(line.letter(unsignedSize - 1)) + 1;
            becomes = isPromotion(last) ? last : 0;
            int place = becomes > 0 ? unsignedSize - 3 : unsignedSize - 2;
            kind = PAWN;
            target = squareIn(line, place);
            if (target == NONE) {
                return false;
            }
            return place == 0 || (place == 2 && line.letter(1) == 'x' && fileIn(line, 0) >= 0);
        }

        private static int fileIn(Line line, int place) {
            return FILE_LETTERS.indexOf(line.letter(place));
        }

        private static int rankIn(Line line, int place) {
            return RANK_LETTERS.indexOf(line.letter(place));
        }

        private static int squareIn(Line line, int place) {
            return squareOf(fileIn(line, place), rankIn(line, place + 1));
        }
    }
}
