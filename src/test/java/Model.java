import java.util.ArrayList;
import java.util.Comparator;
import java.util.HashMap;
import java.util.List;
import java.util.Map;
import java.util.NoSuchElementException;
import java.util.TreeMap;
import java.util.TreeSet;

/**
 * The document said a second time, as plainly as the Java library lets it be said: boards are texts,
 * moves are found by rows and columns, and everything is told from the list of records at each call.
 */
final class Model {
    static final int MAX_RECORDS = 60;

    static final class Record {
        final char kind;
        final int game;
        int number;
        int sum;

        Record(char kind, int game, int number) {
            this.kind = kind;
            this.game = game;
            this.number = number;
        }
    }

    static final class Told {
        final TreeMap<Integer, String> boards = new TreeMap<>();
        final TreeSet<Integer> closed = new TreeSet<>();
        final TreeSet<Integer> begun = new TreeSet<>();
        final Map<Integer, Integer> taken = new HashMap<>();
        final TreeMap<Integer, Integer> claimGames = new TreeMap<>();
        final Map<Integer, String> claimBoards = new HashMap<>();
        final Map<Integer, Character> verdicts = new HashMap<>();
        int ranks = 0;
    }

    private List<Record> log = new ArrayList<>();
    private int kept = 0;
    private final TreeSet<Integer> droppedGames = new TreeSet<>();
    private final TreeSet<Integer> droppedClaims = new TreeSet<>();
    /** What the records tell as they were written: spoiling changes nothing else. */
    private Told now = new Told();

    // ---- boards: ten signs of pieces and 'w' or 'b' for who is to move

    static final String START = "1111003333w";

    private static int row(int square) {
        return square / 2;
    }

    private static int column(int square) {
        return 2 * (square % 2) + (row(square) % 2 == 0 ? 1 : 0);
    }

    private static boolean near(int a, int b, int steps) {
        return Math.abs(row(a) - row(b)) == steps && Math.abs(column(a) - column(b)) == steps;
    }

    private static int middle(int a, int b) {
        for (int square = 0; square < 10; square++) {
            if (near(a, square, 1) && near(square, b, 1)
                    && row(a) + row(b) == 2 * row(square) && column(a) + column(b) == 2 * column(square)) {
                return square;
            }
        }
        return -1;
    }

    private static int piece(String board, int square) {
        return board.charAt(square) - '0';
    }

    private static char side(int piece) {
        return piece == 0 ? '-' : piece <= 2 ? 'w' : 'b';
    }

    static String with(String board, int square, int piece) {
        return board.substring(0, square) + piece + board.substring(square + 1);
    }

    static String turned(String board) {
        return board.substring(0, 10) + (board.charAt(10) == 'w' ? 'b' : 'w');
    }

    static int pieces(String board) {
        return (int) board.chars().filter(c -> c >= '1' && c <= '4').count();
    }

    private static void addJumps(String lifted, char mover, List<Integer> path, List<List<Integer>> found) {
        int here = path.get(path.size() - 1);
        for (int to = 0; to < 10; to++) {
            int over = near(here, to, 2) ? middle(here, to) : -1;
            if (over < 0 || piece(lifted, to) != 0 || piece(lifted, over) == 0
                    || side(piece(lifted, over)) == mover || overs(path).contains(over)) {
                continue;
            }
            List<Integer> longer = new ArrayList<>(path);
            longer.add(to);
            found.add(longer);
            addJumps(lifted, mover, longer, found);
        }
    }

    private static List<Integer> overs(List<Integer> path) {
        List<Integer> overs = new ArrayList<>();
        for (int i = 1; i < path.size(); i++) {
            overs.add(middle(path.get(i - 1), path.get(i)));
        }
        return overs;
    }

    static boolean isCapture(List<Integer> path) {
        return near(path.get(0), path.get(1), 2);
    }

    private static final Map<String, List<List<Integer>>> MOVES = new HashMap<>();

    static List<List<Integer>> movesOf(String board) {
        return MOVES.computeIfAbsent(board, Model::findMoves);
    }

    private static List<List<Integer>> findMoves(String board) {
        char mover = board.charAt(10);
        List<List<Integer>> jumps = new ArrayList<>();
        List<List<Integer>> walks = new ArrayList<>();
        for (int from = 0; from < 10; from++) {
            int piece = piece(board, from);
            if (side(piece) != mover) {
                continue;
            }
            addJumps(with(board, from, 0), mover, List.of(from), jumps);
            for (int to = 0; to < 10; to++) {
                boolean ahead = piece == 2 || piece == 4 || (piece == 1) == (row(to) > row(from));
                if (near(from, to, 1) && piece(board, to) == 0 && ahead) {
                    walks.add(List.of(from, to));
                }
            }
        }
        List<List<Integer>> moves = jumps.isEmpty() ? walks : jumps;
        int most = moves.stream().mapToInt(List::size).max().orElse(0);
        moves.removeIf(m -> m.size() < most);
        moves.sort(Comparator.comparing(Object::toString));
        return moves;
    }

    static String after(String board, List<Integer> move) {
        int from = move.get(0);
        int to = move.get(move.size() - 1);
        int piece = piece(board, from);
        String next = with(board, from, 0);
        if (isCapture(move)) {
            for (int over : overs(move)) {
                next = with(next, over, 0);
            }
        }
        if (piece == 1 && row(to) == 4 || piece == 3 && row(to) == 0) {
            piece++;
        }
        return turned(with(next, to, piece));
    }

    // ---- the table

    private static final List<Map<String, Boolean>> RANKS = new ArrayList<>();
    private static final List<Integer> TELLS = new ArrayList<>();

    private static List<String> smallBoards() {
        List<String> boards = new ArrayList<>();
        for (int a = 0; a < 10; a++) {
            for (int p = 1; p <= 4; p++) {
                String one = with("0000000000w", a, p);
                boards.add(one);
                for (int b = a + 1; b < 10; b++) {
                    for (int q = 1; q <= 4; q++) {
                        boards.add(with(one, b, q));
                    }
                }
            }
        }
        List<String> both = new ArrayList<>(boards);
        boards.forEach(b -> both.add(turned(b)));
        return both;
    }

    /** The boards that the first ranks tell: true if won. Kept, as it is the same at each call. */
    static Map<String, Boolean> tableOf(int ranks) {
        while (RANKS.size() <= ranks) {
            int rank = RANKS.size() - 1;
            Map<String, Boolean> told = rank < 0 ? Map.of() : RANKS.get(rank);
            Map<String, Boolean> more = new HashMap<>(told);
            if (rank >= 0) {
                for (String board : smallBoards()) {
                    Boolean won = told.containsKey(board) ? null : tells(board, rank);
                    if (won != null) {
                        more.put(board, won);
                    }
                }
                TELLS.add(more.size() - told.size());
            }
            RANKS.add(more);
        }
        return RANKS.get(ranks);
    }

    private static Boolean tells(String board, int rank) {
        List<List<Integer>> moves = movesOf(board);
        if (rank == 0) {
            return moves.isEmpty() ? false : null;
        }
        Map<String, Boolean> ahead = RANKS.get(rank);
        Map<String, Boolean> earlier = RANKS.get(rank - 1);
        boolean allWon = !moves.isEmpty();
        boolean lastWon = false;
        for (List<Integer> move : moves) {
            String next = after(board, move);
            boolean inLast = ahead.containsKey(next) && !earlier.containsKey(next);
            if (inLast && !ahead.get(next)) {
                return true;
            }
            allWon &= Boolean.TRUE.equals(ahead.get(next));
            lastWon |= inLast;
        }
        return allWon && lastWon ? false : null;
    }

    static int tellsOf(int rank) {
        tableOf(rank + 1);
        return TELLS.get(rank);
    }

    static boolean whole(int ranks) {
        for (int rank = 0; rank < ranks; rank++) {
            if (tellsOf(rank) == 0) {
                return true;
            }
        }
        return false;
    }

    static char weigh(String board, int ranks) {
        Boolean won = tableOf(ranks).get(board);
        if (won != null) {
            return won ? 'g' : 'r';
        }
        boolean small = pieces(board) == 1 || pieces(board) == 2;
        return small && whole(ranks) ? 'r' : '?';
    }

    // ---- the log

    private static int sum(int ahead, Record r) {
        int a = 31 * ahead + r.kind;
        int b = 31 * a + r.game;
        return 31 * b + r.number;
    }

    private int ahead(int place) {
        return place == 0 ? 7 : log.get(place - 1).sum;
    }

    private boolean fits(int place) {
        return log.get(place).sum == sum(ahead(place), log.get(place));
    }

    private int firstSpoilt() {
        int place = 0;
        while (place < log.size() && fits(place)) {
            place++;
        }
        return place;
    }

    static Told tell(List<Record> records) {
        Told t = new Told();
        for (Record r : records) {
            tellOne(t, r);
        }
        return t;
    }

    private static void tellOne(Told t, Record r) {
        String board = t.boards.get(r.game);
        switch (r.kind) {
            case 'o' -> t.boards.put(r.game, START);
            case 'p' -> t.boards.put(r.game, with(board, r.number / 5, r.number % 5));
            case 't' -> t.boards.put(r.game, turned(board));
            case 'm' -> {
                List<Integer> move = movesOf(board).get(r.number);
                t.boards.put(r.game, after(board, move));
                t.taken.merge(r.game, isCapture(move) ? move.size() - 1 : 0, Integer::sum);
                t.begun.add(r.game);
            }
            case 'c' -> {
                t.claimGames.put(r.number, r.game);
                t.claimBoards.put(r.number, board);
                t.verdicts.put(r.number, '?');
                t.begun.add(r.game);
            }
            case 'j' -> t.verdicts.put(r.number / 2, r.number % 2 == 1 ? 'g' : 'r');
            case 'x' -> t.closed.add(r.game);
            case 'f' -> t.ranks++;
            default -> throw new AssertionError(r.kind);
        }
    }

    private void write(char kind, int game, int number) {
        Record r = new Record(kind, game, number);
        r.sum = sum(ahead(log.size()), r);
        log.add(r);
        tellOne(now, r);
    }

    private void needRoom() {
        if (log.size() >= MAX_RECORDS) {
            throw new IllegalStateException();
        }
    }

    private String board(int game) {
        String board = now.boards.get(game);
        if (board == null) {
            throw new IndexOutOfBoundsException();
        }
        return board;
    }

    private int claimGame(int claim) {
        Integer game = now.claimGames.get(claim);
        if (game == null) {
            throw new IndexOutOfBoundsException();
        }
        return game;
    }

    private Record record(int place) {
        if (place < 0 || place >= log.size()) {
            throw new IndexOutOfBoundsException();
        }
        return log.get(place);
    }

    private static int lowest(TreeSet<Integer> dropped, java.util.Set<Integer> there) {
        int number = 0;
        while (dropped.contains(number) || there.contains(number)) {
            number++;
        }
        return number;
    }

    private static void needSquare(int square) {
        if (square < 0 || square > 9) {
            throw new IllegalArgumentException();
        }
    }

    private void needUnbegun(int game) {
        if (now.closed.contains(game) || now.begun.contains(game)) {
            throw new UnsupportedOperationException();
        }
    }

    // ---- the calls

    int open() {
        if (now.boards.size() + droppedGames.size() >= 5) {
            throw new UnsupportedOperationException();
        }
        needRoom();
        int game = lowest(droppedGames, now.boards.keySet());
        write('o', game, 0);
        return game;
    }

    int place(int game, int square, int piece) {
        String board = board(game);
        needSquare(square);
        if (piece < 0 || piece > 4) {
            throw new IllegalArgumentException();
        }
        needUnbegun(game);
        needRoom();
        write('p', game, 5 * square + piece);
        return piece(board, square);
    }

    boolean change(int game) {
        board(game);
        needUnbegun(game);
        needRoom();
        write('t', game, 0);
        return isBlack(game);
    }

    private List<List<Integer>> list(int game) {
        String board = board(game);
        return now.closed.contains(game) ? List.of() : movesOf(board);
    }

    int moves(int game) {
        return list(game).size();
    }

    private List<Integer> one(int game, int move) {
        List<List<Integer>> all = list(game);
        if (move < 0 || move >= all.size()) {
            throw new IndexOutOfBoundsException();
        }
        return all.get(move);
    }

    int step(int game, int move, int index) {
        List<Integer> squares = one(game, move);
        if (index < 0 || index >= squares.size()) {
            throw new IndexOutOfBoundsException();
        }
        return squares.get(index);
    }

    int captures(int game, int move) {
        List<Integer> squares = one(game, move);
        return isCapture(squares) ? squares.size() - 1 : 0;
    }

    int move(int game, int move) {
        one(game, move);
        needRoom();
        write('m', game, move);
        return moves(game);
    }

    int close(int game) {
        board(game);
        if (now.closed.contains(game)) {
            throw new UnsupportedOperationException();
        }
        needRoom();
        write('x', game, 0);
        return now.boards.size() - now.closed.size();
    }

    int at(int game, int square) {
        String board = board(game);
        needSquare(square);
        return piece(board, square);
    }

    int atAnew(int game, int square) {
        board(game);
        needSquare(square);
        String board = tell(log.subList(0, firstSpoilt())).boards.get(game);
        return board == null ? 0 : piece(board, square);
    }

    boolean isBlack(int game) {
        return board(game).charAt(10) == 'b';
    }

    boolean isClosed(int game) {
        board(game);
        return now.closed.contains(game);
    }

    int games() {
        return now.boards.size();
    }

    int fill() {
        needRoom();
        write('f', -1, now.ranks);
        return tellsOf(now.ranks - 1);
    }

    int ranks() {
        return now.ranks;
    }

    boolean isWhole() {
        return whole(now.ranks);
    }

    int distance(int game) {
        String board = board(game);
        for (int ranks = 1; ranks <= now.ranks; ranks++) {
            if (tableOf(ranks).containsKey(board)) {
                return ranks - 1;
            }
        }
        throw new NoSuchElementException();
    }

    int claim(int game) {
        board(game);
        if (now.closed.contains(game)) {
            throw new UnsupportedOperationException();
        }
        needRoom();
        int claim = lowest(droppedClaims, now.claimGames.keySet());
        write('c', game, claim);
        return claim;
    }

    char judge(int claim) {
        int game = claimGame(claim);
        if (now.verdicts.get(claim) != '?') {
            throw new UnsupportedOperationException();
        }
        char verdict = weigh(now.claimBoards.get(claim), now.ranks);
        if (verdict != '?') {
            needRoom();
            write('j', game, 2 * claim + (verdict == 'g' ? 1 : 0));
        }
        return verdict;
    }

    char verdict(int claim) {
        claimGame(claim);
        return now.verdicts.get(claim);
    }

    int gameOf(int claim) {
        return claimGame(claim);
    }

    int claims() {
        return (int) now.verdicts.values().stream().filter(v -> v == '?').count();
    }

    int flush() {
        kept = log.size();
        return kept;
    }

    int crash(int cells) {
        if (cells < 0 || cells > 240) {
            throw new IllegalArgumentException();
        }
        log = new ArrayList<>(log.subList(0, Math.min(log.size(), kept + cells / 4)));
        log = new ArrayList<>(log.subList(0, firstSpoilt()));
        kept = log.size();
        now = tell(log);
        return kept;
    }

    boolean spoil(int place) {
        Record r = record(place);
        boolean fitted = fits(place);
        r.number++;
        return fitted;
    }

    int compact() {
        int before = log.size();
        if (firstSpoilt() < before) {
            throw new UnsupportedOperationException();
        }
        TreeSet<Integer> gone = new TreeSet<>(now.closed);
        now.claimGames.forEach((claim, game) -> {
            if (now.verdicts.get(claim) == '?') {
                gone.remove(game);
            }
        });
        now.claimGames.forEach((claim, game) -> {
            if (gone.contains(game)) {
                droppedClaims.add(claim);
            }
        });
        droppedGames.addAll(gone);
        List<Record> old = log;
        log = new ArrayList<>();
        now = new Told();
        for (Record r : old) {
            if (!gone.contains(r.game)) {
                write(r.kind, r.game, r.number);
            }
        }
        kept = log.size();
        return before - kept;
    }

    int records() {
        return log.size();
    }

    char kindAt(int place) {
        return record(place).kind;
    }

    int numberAt(int place) {
        return record(place).number;
    }

    int gameAt(int place) {
        return record(place).game;
    }

    int sumAt(int place) {
        return record(place).sum;
    }

    int segmentSum(int segment) {
        if (segment < 0 || 4L * segment >= log.size()) {
            throw new IndexOutOfBoundsException();
        }
        return log.get(Math.min(4 * segment + 3, log.size() - 1)).sum;
    }

    long captured() {
        return now.taken.values().stream().mapToLong(Integer::longValue).sum();
    }

    float keptShare() {
        if (log.isEmpty()) {
            throw new ArithmeticException();
        }
        return (float) kept / (float) log.size();
    }

    double meanPieces() {
        int games = 0;
        int pieces = 0;
        for (int game : now.boards.keySet()) {
            if (!now.closed.contains(game)) {
                games++;
                pieces += pieces(now.boards.get(game));
            }
        }
        if (games == 0) {
            throw new ArithmeticException();
        }
        return (double) pieces / (double) games;
    }

    /** The document's house is always sound. */
    boolean isSound() {
        return true;
    }
}
