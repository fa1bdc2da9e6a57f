import java.util.Arrays;
import java.util.NoSuchElementException;

/** A house of draughts on a board of ten squares. Its log of records is its only truth. */
public final class CheckerLog {
    private static final int SQUARES = 10;
    private static final int ROW_SQUARES = 2;
    private static final int TOP_ROW = 4;
    private static final int DIRECTIONS = 4;
    private static final int WAYS_UP = 2;

    private static final int NONE = 0;
    private static final int WHITE_MAN = 1;
    private static final int WHITE_KING = 2;
    private static final int BLACK_MAN = 3;
    private static final int BLACK_KING = 4;
    private static final int PIECES = 4;
    private static final int PIECE_CODES = 5;

    private static final int MAX_GAMES = 5;
    private static final int MAX_RECORDS = 60;
    private static final int MAX_CLAIM_NUMBERS = 512;
    private static final int SEGMENT_RECORDS = 4;
    private static final int RECORD_CELLS = 4;
    private static final int MAX_CELLS = 240;
    private static final int NO_GAME = -1;

    private static final char OPENED = 'o';
    private static final char PLACED = 'p';
    private static final char CHANGED = 't';
    private static final char MOVED = 'm';
    private static final char CLAIMED = 'c';
    private static final char JUDGED = 'j';
    private static final char CLOSED = 'x';
    private static final char FILLED = 'f';

    private static final char GRANTED = 'g';
    private static final char REFUSED = 'r';
    private static final char STANDING = '?';

    /**
     * The square next to each one, a row a square: down left, down right, up left, up right; -1 is
     * none. In this order squares rise, so that moves are found in the order of their numbers.
     */
    private static final int[] NEXT = {
        -1, -1, 2, 3,
        -1, -1, 3, -1,
        -1, 0, -1, 4,
        0, 1, 4, 5,
        2, 3, 6, 7,
        3, -1, 7, -1,
        -1, 4, -1, 8,
        4, 5, 8, 9,
        6, 7, -1, -1,
        7, -1, -1, -1,
    };

    private final Log log = new Log();
    private final MoveList list = new MoveList();
    private final Table table = new Table();
    private final House house = new House(list);
    /** A second house, to go through the log anew. */
    private final House anew = new House(list);
    /** Numbers that compacting dropped. No crash brings them back, so they stand outside the log. */
    private final boolean[] droppedGames = new boolean[MAX_GAMES];
    private final boolean[] droppedClaims = new boolean[MAX_CLAIM_NUMBERS];

    public CheckerLog() {
    }

    // ---- games

    public int open() throws UnsupportedOperationException, IllegalStateException {
        int number = freeGame();
        if (number < 0) {
            throw new UnsupportedOperationException("5 games were opened");
        }
        needRoom();
        write(OPENED, number, 0);
        return number;
    }

    public int place(int game, int square, int piece)
            throws IndexOutOfBoundsException, IllegalArgumentException, UnsupportedOperationException,
            IllegalStateException {
        Game there = gameThere(game);
        needSquare(square);
        if (piece < NONE || piece > BLACK_KING) {
            throw new IllegalArgumentException("no such piece");
        }
        needUnbegun(there);
        needRoom();
        int before = there.board.on(square);
        write(PLACED, game, PIECE_CODES * square + piece);
        return before;
    }

    public boolean change(int game)
            throws IndexOutOfBoundsException, UnsupportedOperationException, IllegalStateException {
        Game there = gameThere(game);
        needUnbegun(there);
        needRoom();
        write(CHANGED, game, 0);
        return there.board.black;
    }

    public int moves(int game) throws IndexOutOfBoundsException {
        return listMoves(gameThere(game));
    }

    public int step(int game, int move, int index) throws IndexOutOfBoundsException {
        needMove(gameThere(game), move);
        if (index < 0 || index >= list.squaresOfEach()) {
            throw new IndexOutOfBoundsException("no such square of the move");
        }
        return list.square(move, index);
    }

    public int captures(int game, int move) throws IndexOutOfBoundsException {
        needMove(gameThere(game), move);
        return list.taken;
    }

    public int move(int game, int move) throws IndexOutOfBoundsException, IllegalStateException {
        Game there = gameThere(game);
        needMove(there, move);
        needRoom();
        write(MOVED, game, move);
        return listMoves(there);
    }

    public int close(int game)
            throws IndexOutOfBoundsException, UnsupportedOperationException, IllegalStateException {
        needOpen(gameThere(game));
        needRoom();
        write(CLOSED, game, 0);
        return house.openGames();
    }

    public int at(int game, int square) throws IndexOutOfBoundsException, IllegalArgumentException {
        Game there = gameThere(game);
        needSquare(square);
        return there.board.on(square);
    }

    public int atAnew(int game, int square)
            throws IndexOutOfBoundsException, IllegalArgumentException {
        gameThere(game);
        needSquare(square);
        int end = log.fitting();
        anew.clear();
        for (int record = 0; record < end; record++) {
            if (log.game(record) == game) {
                anew.tell(log, record);
            }
        }
        Game told = anew.slot(game);
        return told != null && told.there ? told.board.on(square) : NONE;
    }

    public boolean isBlack(int game) throws IndexOutOfBoundsException {
        return gameThere(game).board.black;
    }

    public boolean isClosed(int game) throws IndexOutOfBoundsException {
        return gameThere(game).closed;
    }

    public int games() {
        return house.gamesThere();
    }

    // ---- the table and claims

    public int fill() throws IllegalStateException {
        needRoom();
        int rank = house.ranks;
        write(FILLED, NO_GAME, rank);
        return table.tellRank(rank, list);
    }

    public int ranks() {
        return house.ranks;
    }

    public boolean isWhole() {
        return table.isFull(house.ranks);
    }

    public int distance(int game) throws IndexOutOfBoundsException, NoSuchElementException {
        int rank = table.rankOf(Table.keyOf(gameThere(game).board), house.ranks);
        if (rank < 0) {
            throw new NoSuchElementException("the table does not tell the board");
        }
        return rank;
    }

    public int claim(int game)
            throws IndexOutOfBoundsException, UnsupportedOperationException, IllegalStateException {
        needOpen(gameThere(game));
        needRoom();
        int number = freeClaim();
        write(CLAIMED, game, number);
        return number;
    }

    public char judge(int claim)
            throws IndexOutOfBoundsException, UnsupportedOperationException, IllegalStateException {
        Claim there = claimThere(claim);
        if (there.verdict != STANDING) {
            throw new UnsupportedOperationException("the claim was judged");
        }
        char verdict = table.weigh(there.key, house.ranks);
        if (verdict != STANDING) {
            needRoom();
            write(JUDGED, there.game, 2 * claim + (verdict == GRANTED ? 1 : 0));
        }
        return verdict;
    }

    public char verdict(int claim) throws IndexOutOfBoundsException {
        return claimThere(claim).verdict;
    }

    public int gameOf(int claim) throws IndexOutOfBoundsException {
        return claimThere(claim).game;
    }

    public int claims() {
        int open = 0;
        for (int game = 0; game < MAX_GAMES; game++) {
            open += house.openClaims(game);
        }
        return open;
    }

    // ---- the log

    public int flush() {
        log.kept = log.count;
        return log.kept;
    }

    public int crash(int cells) throws IllegalArgumentException {
        if (cells < 0 || cells > MAX_CELLS) {
            throw new IllegalArgumentException("no such number of cells");
        }
        log.cut(log.kept + cells / RECORD_CELLS);
        log.cut(log.fitting());
        log.kept = log.count;
        tellHouseAgain();
        return log.count;
    }

    public boolean spoil(int record) throws IndexOutOfBoundsException {
        needRecord(record);
        return log.spoilNumber(record);
    }

    public int compact() throws UnsupportedOperationException {
        int before = log.count;
        if (log.fitting() < before) {
            throw new UnsupportedOperationException("a record is spoilt");
        }
        dropClosedGames();
        log.leaveOut(droppedGames);
        log.kept = log.count;
        tellHouseAgain();
        return before - log.count;
    }

    public int records() {
        return log.count;
    }

    public char kindAt(int record) throws IndexOutOfBoundsException {
        needRecord(record);
        return log.kind(record);
    }

    public int numberAt(int record) throws IndexOutOfBoundsException {
        needRecord(record);
        return log.number(record);
    }

    public int gameAt(int record) throws IndexOutOfBoundsException {
        needRecord(record);
        return log.game(record);
    }

    public int sumAt(int record) throws IndexOutOfBoundsException {
        needRecord(record);
        return log.sum(record);
    }

    public int segmentSum(int segment) throws IndexOutOfBoundsException {
        int segments = (log.count + SEGMENT_RECORDS - 1) / SEGMENT_RECORDS;
        if (segment < 0 || segment >= segments) {
            throw new IndexOutOfBoundsException("no such segment");
        }
        return log.sum(Math.min(SEGMENT_RECORDS * (segment + 1), log.count) - 1);
    }

    // ---- figures

    public long captured() {
        return house.takenPieces();
    }

    public float keptShare() throws ArithmeticException {
        if (log.count == 0) {
            throw new ArithmeticException("no records");
        }
        return (float) log.kept / (float) log.count;
    }

    public double meanPieces() throws ArithmeticException {
        int open = house.openGames();
        if (open == 0) {
            throw new ArithmeticException("no open games");
        }
        return (double) house.openPieces() / (double) open;
    }

    public boolean isSound() {
        if (log.fitting() < log.count) {
            return true;
        }
        boolean follows = true;
        anew.clear();
        for (int record = 0; record < log.count; record++) {
            follows = follows && judgmentFollows(record);
            anew.tell(log, record);
        }
        return follows && anew.isSameAs(house);
    }

    // ---- what the calls share

    private Game gameThere(int number) throws IndexOutOfBoundsException {
        Game game = house.slot(number);
        if (game == null || !game.there) {
            throw new IndexOutOfBoundsException("no such game");
        }
        return game;
    }

    private Claim claimThere(int number) throws IndexOutOfBoundsException {
        Claim claim = house.claimOf(number);
        if (claim == null) {
            throw new IndexOutOfBoundsException("no such claim");
        }
        return claim;
    }

    private void needSquare(int square) throws IllegalArgumentException {
        if (square < 0 || square >= SQUARES) {
            throw new IllegalArgumentException("no such square");
        }
    }

    private void needMove(Game game, int move) throws IndexOutOfBoundsException {
        if (move < 0 || move >= listMoves(game)) {
            throw new IndexOutOfBoundsException("no such move");
        }
    }

    private void needUnbegun(Game game) throws UnsupportedOperationException {
        if (game.closed || game.begun) {
            throw new UnsupportedOperationException("the game is closed or begun");
        }
    }

    private void needOpen(Game game) throws UnsupportedOperationException {
        if (game.closed) {
            throw new UnsupportedOperationException("the game is closed");
        }
    }

    private void needRecord(int record) throws IndexOutOfBoundsException {
        if (!log.has(record)) {
            throw new IndexOutOfBoundsException("no such record");
        }
    }

    private void needRoom() throws IllegalStateException {
        if (log.count >= MAX_RECORDS) {
            throw new IllegalStateException("60 records are there");
        }
    }

    private int listMoves(Game game) {
        if (game.closed) {
            list.clear();
        } else {
            list.find(game.board);
        }
        return list.count;
    }

    private int freeGame() {
        for (int number = 0; number < MAX_GAMES; number++) {
            Game game = house.slot(number);
            if (game != null && !game.there && !droppedGames[number]) {
                return number;
            }
        }
        return -1;
    }

    /** Claims stand in the order of their numbers, so only dropped numbers lie ahead of a free one. */
    private int freeClaim() {
        int number = house.lastClaim() + 1;
        while (number >= 0 && number < MAX_CLAIM_NUMBERS && droppedClaims[number]) {
            number++;
        }
        return number;
    }

    private void write(char kind, int game, int number) {
        log.add(kind, game, number);
        house.tell(log, log.count - 1);
    }

    private void tellHouseAgain() {
        house.clear();
        for (int record = 0; record < log.count; record++) {
            house.tell(log, record);
        }
    }

    private void dropClosedGames() {
        for (int number = 0; number < MAX_GAMES; number++) {
            Game game = house.slot(number);
            if (game != null && game.there && game.closed && house.openClaims(number) == 0) {
                droppedGames[number] = true;
                house.markClaims(number, droppedClaims);
            }
        }
    }

    /** Looks at a judgment as the house that is told anew stands ahead of it. */
    private boolean judgmentFollows(int record) {
        if (log.kind(record) != JUDGED) {
            return true;
        }
        int number = log.number(record);
        Claim claim = anew.claimOf(number / 2);
        char verdict = number % 2 == 1 ? GRANTED : REFUSED;
        return claim != null && table.weigh(claim.key, anew.ranks) == verdict;
    }

    /** Where pieces stand and who is to move. */
    private static final class Board {
        final int[] squares = new int[SQUARES];
        boolean black;

        void setUp() {
            for (int square = 0; square < SQUARES; square++) {
                put(square, square <= 3 ? WHITE_MAN : square >= 6 ? BLACK_MAN : NONE);
            }
            black = false;
        }

        void clear() {
            Arrays.fill(squares, NONE);
            black = false;
        }

        int on(int square) {
            return square < 0 || square >= squares.length ? NONE : squares[square];
        }

        void put(int square, int piece) {
            if (square >= 0 && square < squares.length) {
                squares[square] = piece;
            }
        }

        boolean isFree(int square) {
            return square >= 0 && square < squares.length && squares[square] == NONE;
        }

        boolean isMovers(int square) {
            if (square < 0 || square >= squares.length || squares[square] == NONE) {
                return false;
            }
            return (squares[square] >= BLACK_MAN) == black;
        }

        boolean isOthers(int square) {
            if (square < 0 || square >= squares.length || squares[square] == NONE) {
                return false;
            }
            return (squares[square] >= BLACK_MAN) != black;
        }

        int pieces() {
            int count = 0;
            for (int square = 0; square < SQUARES; square++) {
                count += on(square) == NONE ? 0 : 1;
            }
            return count;
        }

        void copy(Board other) {
            System.arraycopy(other.squares, 0, squares, 0, SQUARES);
            black = other.black;
        }

        boolean isSameAs(Board other) {
            boolean same = black == other.black;
            for (int square = 0; square < SQUARES; square++) {
                same = same && on(square) == other.on(square);
            }
            return same;
        }

        /** Makes a move of the list, which was found on a board like this one. */
        void make(MoveList list, int move) {
            int from = list.square(move, 0);
            int to = list.square(move, list.squaresOfEach() - 1);
            int piece = on(from);
            put(from, NONE);
            for (int jump = 0; jump < list.taken; jump++) {
                put(between(list.square(move, jump), list.square(move, jump + 1)), NONE);
            }
            put(to, crowned(piece, to));
            black = !black;
        }

        private static int between(int from, int to) {
            for (int direction = 0; direction < DIRECTIONS; direction++) {
                int over = next(from, direction);
                if (over >= 0 && next(over, direction) == to) {
                    return over;
                }
            }
            return -1;
        }

        private static int crowned(int piece, int square) {
            if (piece == WHITE_MAN && square / ROW_SQUARES == TOP_ROW) {
                return WHITE_KING;
            }
            return piece == BLACK_MAN && square / ROW_SQUARES == 0 ? BLACK_KING : piece;
        }

        static int next(int square, int direction) {
            if (square < 0 || square >= SQUARES || direction < 0 || direction >= DIRECTIONS) {
                return -1;
            }
            return NEXT[DIRECTIONS * square + direction];
        }
    }

    /** The moves of who is to move on a board, in the order of their numbers. */
    private static final class MoveList {
        private static final int MAX_MOVES = 64;
        private static final int MAX_SQUARES = 10;

        final int[] squares = new int[MAX_MOVES * MAX_SQUARES];
        final int[] path = new int[MAX_SQUARES];
        int count;
        /** How many pieces each of them captures: all moves of a board capture equally many. */
        int taken;

        void clear() {
            count = 0;
            taken = 0;
        }

        int squaresOfEach() {
            return taken == 0 ? 2 : taken + 1;
        }

        int square(int move, int index) {
            if (move < 0 || move >= MAX_MOVES || index < 0 || index >= MAX_SQUARES) {
                return -1;
            }
            return squares[MAX_SQUARES * move + index];
        }

        void find(Board board) {
            clear();
            for (int from = 0; from < SQUARES; from++) {
                if (board.isMovers(from)) {
                    int piece = board.on(from);
                    board.put(from, NONE);
                    path[0] = from;
                    jumpOn(this, board, 0, 0);
                    board.put(from, piece);
                }
            }
            if (count == 0) {
                findWalks(board);
            }
        }

        private void findWalks(Board board) {
            for (int from = 0; from < SQUARES; from++) {
                if (board.isMovers(from)) {
                    int piece = board.on(from);
                    int first = piece == WHITE_MAN ? WAYS_UP : 0;
                    int end = piece == BLACK_MAN ? WAYS_UP : DIRECTIONS;
                    path[0] = from;
                    for (int direction = first; direction < end; direction++) {
                        path[1] = Board.next(from, direction);
                        if (board.isFree(path[1])) {
                            keep(2);
                        }
                    }
                }
            }
        }

        /** Goes on with the capture whose squares up to the depth stand in the path of the list. */
        private static void jumpOn(MoveList list, Board board, int depth, int jumped) {
            if (depth < 0 || depth + 1 >= MAX_SQUARES) {
                return;
            }
            int here = list.path[depth];
            boolean ends = true;
            for (int direction = 0; direction < DIRECTIONS; direction++) {
                int over = Board.next(here, direction);
                int to = Board.next(over, direction);
                if (board.isOthers(over) && (jumped & 1 << over) == 0 && board.isFree(to)) {
                    ends = false;
                    list.path[depth + 1] = to;
                    jumpOn(list, board, depth + 1, jumped | 1 << over);
                }
            }
            if (ends && depth > 0) {
                list.keepCapture(depth);
            }
        }

        /** Only captures with the most pieces are moves: a better one drives out all ahead of it. */
        private void keepCapture(int captured) {
            if (captured > taken) {
                count = 0;
                taken = captured;
            }
            if (captured == taken) {
                keep(captured + 1);
            }
        }

        private void keep(int length) {
            if (count < 0 || count >= MAX_MOVES || length < 0 || length > MAX_SQUARES) {
                return;
            }
            System.arraycopy(path, 0, squares, MAX_SQUARES * count, length);
            count++;
        }
    }

    /**
     * What is told of the boards with 1 or 2 pieces. A rank tells the same whenever it is filled, so
     * it is worked out once; how many of them the log has filled is told by the house.
     */
    private static final class Table {
        private static final int PLACES = SQUARES * PIECES;
        private static final int SECONDS = PLACES + 1;
        private static final int KEYS = PLACES * SECONDS * 2;
        private static final int UNTOLD = -1;

        final int[] told = new int[KEYS];
        final int[] tells = new int[MAX_RECORDS];
        final Board board = new Board();
        final Board after = new Board();
        int known;
        int emptyRank = UNTOLD;

        Table() {
            Arrays.fill(told, UNTOLD);
        }

        /** Returns -1 for a board that is not of 1 or 2 pieces. */
        static int keyOf(Board board) {
            int first = -1;
            int second = -1;
            int count = 0;
            for (int square = 0; square < SQUARES; square++) {
                int piece = board.on(square);
                if (piece != NONE) {
                    first = count == 0 ? PIECES * square + piece - 1 : first;
                    second = count == 0 ? -1 : PIECES * square + piece - 1;
                    count++;
                }
            }
            if (count < 1 || count > 2) {
                return -1;
            }
            return (first * SECONDS + second + 1) * 2 + (board.black ? 1 : 0);
        }

        /** Puts the board of a key on the table's own one; returns false if the key is of none. */
        private boolean layOut(int key) {
            int first = key / 2 / SECONDS;
            int second = key / 2 % SECONDS - 1;
            if (second >= 0 && second / PIECES <= first / PIECES) {
                return false;
            }
            board.clear();
            board.put(first / PIECES, first % PIECES + 1);
            if (second >= 0) {
                board.put(second / PIECES, second % PIECES + 1);
            }
            board.black = key % 2 == 1;
            return true;
        }

        /** Returns the rank that tells the board, -1 if none of the filled ones does. */
        int rankOf(int key, int ranks) {
            if (key < 0 || key >= KEYS || told[key] >= ranks) {
                return UNTOLD;
            }
            return told[key];
        }

        boolean isFull(int ranks) {
            return emptyRank >= 0 && emptyRank < ranks;
        }

        char weigh(int key, int ranks) {
            int rank = rankOf(key, ranks);
            if (rank >= 0) {
                return rank % 2 == 1 ? GRANTED : REFUSED;
            }
            return key >= 0 && isFull(ranks) ? REFUSED : STANDING;
        }

        /** Returns how many boards a rank tells. All ranks ahead of it are worked out already. */
        int tellRank(int rank, MoveList list) {
            if (rank < 0 || rank >= MAX_RECORDS) {
                return 0;
            }
            // A rank goes by what the one ahead tells: behind an empty one all are empty.
            if (rank == known && emptyRank < 0) {
                tells[rank] = workOut(rank, list);
                emptyRank = tells[rank] == 0 ? rank : UNTOLD;
                known++;
            }
            return tells[rank];
        }

        private int workOut(int rank, MoveList list) {
            int count = 0;
            for (int key = 0; key < KEYS; key++) {
                if (told[key] == UNTOLD && layOut(key) && isOfRank(rank, list)) {
                    told[key] = rank;
                    count++;
                }
            }
            return count;
        }

        /** Boards are won in odd ranks and lost in even ones. */
        private boolean isOfRank(int rank, MoveList list) {
            list.find(board);
            if (rank == 0) {
                return list.count == 0;
            }
            boolean leadsThere = false;
            boolean allWon = true;
            for (int move = 0; move < list.count; move++) {
                after.copy(board);
                after.make(list, move);
                int next = rankOf(keyOf(after), rank);
                leadsThere = leadsThere || next == rank - 1;
                allWon = allWon && next >= 0 && next % 2 == 1;
            }
            return leadsThere && (rank % 2 == 1 || allWon);
        }
    }

    /** A game as the log tells it. */
    private static final class Game {
        final Board board = new Board();
        boolean there;
        boolean closed;
        /** Whether a move was made or something was claimed. */
        boolean begun;
        int taken;

        void setUp() {
            board.setUp();
            there = true;
            closed = false;
            begun = false;
            taken = 0;
        }

        boolean isSameAs(Game other) {
            if (!there || !other.there) {
                return there == other.there;
            }
            return closed == other.closed && begun == other.begun && taken == other.taken
                    && board.isSameAs(other.board);
        }
    }

    /** A claim as the log tells it, with the table's key of the board as it was then. */
    private static final class Claim {
        int number;
        int game;
        int key;
        char verdict;

        boolean isSameAs(Claim other) {
            return number == other.number && game == other.game && key == other.key
                    && verdict == other.verdict;
        }
    }

    /** The games, claims and ranks that the records tell, one after the other. */
    private static final class House {
        final MoveList list;
        final Game[] slots = new Game[MAX_GAMES];
        final Claim[] made = new Claim[MAX_RECORDS];
        int madeCount;
        int ranks;

        House(MoveList list) {
            this.list = list;
            for (int number = 0; number < MAX_GAMES; number++) {
                slots[number] = new Game();
            }
            for (int place = 0; place < MAX_RECORDS; place++) {
                made[place] = new Claim();
            }
        }

        void clear() {
            for (int number = 0; number < MAX_GAMES; number++) {
                Game game = slot(number);
                if (game != null) {
                    game.there = false;
                }
            }
            madeCount = 0;
            ranks = 0;
        }

        /** Returns null for a number that no game can have. */
        Game slot(int number) {
            return number < 0 || number >= slots.length ? null : slots[number];
        }

        private Claim claimIn(int place) {
            return place < 0 || place >= madeCount || place >= made.length ? null : made[place];
        }

        /** Returns null for a claim that is not there. */
        Claim claimOf(int number) {
            for (int place = 0; place < madeCount; place++) {
                Claim claim = claimIn(place);
                if (claim != null && claim.number == number) {
                    return claim;
                }
            }
            return null;
        }

        int lastClaim() {
            Claim last = claimIn(madeCount - 1);
            return last == null ? -1 : last.number;
        }

        int openClaims(int game) {
            int open = 0;
            for (int place = 0; place < madeCount; place++) {
                Claim claim = claimIn(place);
                if (claim != null && claim.game == game && claim.verdict == STANDING) {
                    open++;
                }
            }
            return open;
        }

        void markClaims(int game, boolean[] marks) {
            for (int place = 0; place < madeCount; place++) {
                Claim claim = claimIn(place);
                if (claim != null && claim.game == game && claim.number >= 0
                        && claim.number < marks.length) {
                    marks[claim.number] = true;
                }
            }
        }

        int gamesThere() {
            int there = 0;
            for (int number = 0; number < MAX_GAMES; number++) {
                Game game = slot(number);
                there += game != null && game.there ? 1 : 0;
            }
            return there;
        }

        int openGames() {
            int open = 0;
            for (int number = 0; number < MAX_GAMES; number++) {
                Game game = slot(number);
                open += game != null && game.there && !game.closed ? 1 : 0;
            }
            return open;
        }

        int openPieces() {
            int pieces = 0;
            for (int number = 0; number < MAX_GAMES; number++) {
                Game game = slot(number);
                pieces += game != null && game.there && !game.closed ? game.board.pieces() : 0;
            }
            return pieces;
        }

        long takenPieces() {
            long taken = 0;
            for (int number = 0; number < MAX_GAMES; number++) {
                Game game = slot(number);
                taken += game != null && game.there ? game.taken : 0;
            }
            return taken;
        }

        void tell(Log log, int record) {
            char kind = log.kind(record);
            int number = log.number(record);
            Game told = slot(log.game(record));
            if (kind == FILLED) {
                ranks++;
            } else if (told == null) {
                return;
            } else if (kind == OPENED) {
                told.setUp();
            } else if (kind == PLACED) {
                told.board.put(number / PIECE_CODES, number % PIECE_CODES);
            } else if (kind == CHANGED) {
                told.board.black = !told.board.black;
            } else if (kind == MOVED) {
                makeMove(told, number);
            } else if (kind == CLAIMED) {
                addClaim(told, log.game(record), number);
            } else if (kind == JUDGED) {
                settle(number);
            } else if (kind == CLOSED) {
                told.closed = true;
            }
        }

        private void makeMove(Game told, int move) {
            list.find(told.board);
            told.board.make(list, move);
            told.taken += list.taken;
            told.begun = true;
        }

        private void addClaim(Game told, int game, int number) {
            if (madeCount < 0 || madeCount >= made.length) {
                return;
            }
            Claim claim = made[madeCount];
            if (claim != null) {
                claim.number = number;
                claim.game = game;
                claim.key = Table.keyOf(told.board);
                claim.verdict = STANDING;
                told.begun = true;
                madeCount++;
            }
        }

        private void settle(int number) {
            Claim claim = claimOf(number / 2);
            if (claim != null) {
                claim.verdict = number % 2 == 1 ? GRANTED : REFUSED;
            }
        }

        boolean isSameAs(House other) {
            boolean same = ranks == other.ranks && madeCount == other.madeCount;
            for (int number = 0; number < MAX_GAMES; number++) {
                Game game = slot(number);
                Game others = other.slot(number);
                same = same && game != null && others != null && game.isSameAs(others);
            }
            for (int place = 0; place < madeCount; place++) {
                Claim claim = claimIn(place);
                Claim others = other.claimIn(place);
                same = same && claim != null && others != null && claim.isSameAs(others);
            }
            return same;
        }
    }

    /** The records in the order in which they were written, and how many of them are kept. */
    private static final class Log {
        private static final int FIRST_SUM = 7;
        private static final int FACTOR = 31;

        final char[] kinds = new char[MAX_RECORDS];
        final int[] games = new int[MAX_RECORDS];
        final int[] numbers = new int[MAX_RECORDS];
        final int[] sums = new int[MAX_RECORDS];
        int count;
        int kept;

        boolean has(int record) {
            return record >= 0 && record < count && record < MAX_RECORDS;
        }

        char kind(int record) {
            return has(record) ? kinds[record] : 0;
        }

        int game(int record) {
            return has(record) ? games[record] : NO_GAME;
        }

        int number(int record) {
            return has(record) ? numbers[record] : 0;
        }

        int sum(int record) {
            return has(record) ? sums[record] : FIRST_SUM;
        }

        private int sumOf(int ahead, char kind, int game, int number) {
            return FACTOR * (FACTOR * (FACTOR * ahead + kind) + game) + number;
        }

        void add(char kind, int game, int number) {
            if (count < 0 || count >= MAX_RECORDS) {
                return;
            }
            kinds[count] = kind;
            games[count] = game;
            numbers[count] = number;
            sums[count] = sumOf(sum(count - 1), kind, game, number);
            count++;
        }

        boolean fits(int record) {
            return sum(record) == sumOf(sum(record - 1), kind(record), game(record), number(record));
        }

        /** Returns how many records there are ahead of the first one that is spoilt. */
        int fitting() {
            for (int record = 0; record < count; record++) {
                if (!fits(record)) {
                    return record;
                }
            }
            return count;
        }

        boolean spoilNumber(int record) {
            boolean fitted = fits(record);
            if (has(record)) {
                numbers[record]++;
            }
            return fitted;
        }

        void cut(int end) {
            count = Math.min(count, end);
        }

        /** Leaves out the records of the games marked; the sums of the others are made anew. */
        void leaveOut(boolean[] marks) {
            int end = count;
            count = 0;
            for (int record = 0; record < end && record < MAX_RECORDS; record++) {
                int game = games[record];
                if (game < 0 || game >= marks.length || !marks[game]) {
                    add(kinds[record], game, numbers[record]);
                }
            }
        }
    }
}
