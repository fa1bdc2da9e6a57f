import java.util.function.Consumer;
import java.util.function.Function;
import java.util.function.Supplier;

/**
 * Every exception that the document names, at each of its edges; which of several is thrown; and that a
 * call that throws changes nothing. A house without the call must answer as one with it.
 */
public final class RefusalsTest {
    private static final String NO_PLACE = "throws.IndexOutOfBoundsException";
    private static final String BAD_ARGUMENT = "throws.IllegalArgumentException";
    private static final String NOT_NOW = "throws.UnsupportedOperationException";
    private static final String FULL = "throws.IllegalStateException";
    private static final String NOT_TOLD = "throws.NoSuchElementException";
    private static final String NONE = "throws.ArithmeticException";

    private static final String LOST_IN_0 = "0000000003w";

    private static final Check CHECK = new Check();

    public static void main(String[] args) {
        noSuchGame();
        noSuchGameInAnEmptyHouse();
        noSuchSquareOrPiece();
        noSuchMove();
        noSuchClaim();
        noSuchRecord();
        noSuchSegment();
        noSuchCells();
        closedGames();
        begunGames();
        fiveGames();
        judgedClaims();
        spoiltLogs();
        fullLogs();
        notTold();
        noneThere();
        gameAheadOfTheRest();
        squareAheadOfTheRest();
        closedAheadOfFull();
        CHECK.end("RefusalsTest");
    }

    /** A house whose games 0 to 3 are new, moved, claimed and closed, game 4 dropped; its claim 1 is judged. */
    private static CheckerLog mixed() {
        CheckerLog house = new CheckerLog();
        for (int game = 0; game < 4; game++) {
            house.open();
        }
        house.claim(Houses.setUp(house, LOST_IN_0));
        house.fill();
        house.judge(0);
        house.close(4);
        house.compact();
        house.place(1, 4, 2);
        house.move(1, 0);
        house.claim(2);
        house.change(3);
        house.close(3);
        house.place(0, 5, 4);
        return house;
    }

    /** The same house with all the records that there can be. */
    private static CheckerLog mixedAndFull() {
        CheckerLog house = mixed();
        Houses.fillLog(house);
        return house;
    }

    /** A house whose game 0 has a judged claim 0 and an open claim 1. */
    private static CheckerLog judged() {
        CheckerLog house = Houses.with(LOST_IN_0);
        house.claim(0);
        house.claim(0);
        house.fill();
        house.judge(0);
        return house;
    }

    private static CheckerLog judgedAndFull() {
        CheckerLog house = judged();
        Houses.fillLog(house);
        return house;
    }

    private static void refused(String label, String exception, Supplier<CheckerLog> build, Consumer<CheckerLog> call) {
        CheckerLog house = build.get();
        CHECK.due(label, exception, () -> {
            call.accept(house);
            return "nothing thrown";
        });
        CHECK.due(label + ", and then", Houses.stateOf(build.get()), () -> Houses.stateOf(house));
    }

    private static void due(String label, Object want, Supplier<CheckerLog> build, Function<CheckerLog, Object> call) {
        CHECK.due(label, want, () -> call.apply(build.get()));
    }

    // ---- no such game, square, piece, move, claim, record, segment, cells

    private static void noSuchGame() {
        for (int game : new int[] {-1, 4, 5, 6, Integer.MAX_VALUE, Integer.MIN_VALUE}) {
            withoutGame(RefusalsTest::mixed, game);
        }
        due("the last game that is there", true, RefusalsTest::mixed, h -> h.isClosed(3));
        due("the first one", false, RefusalsTest::mixed, h -> h.isClosed(0));
    }

    private static void noSuchGameInAnEmptyHouse() {
        withoutGame(CheckerLog::new, 0);
    }

    private static void withoutGame(Supplier<CheckerLog> build, int game) {
        String label = "no game " + game + ": ";
        refused(label + "place", NO_PLACE, build, h -> h.place(game, 0, 0));
        refused(label + "change", NO_PLACE, build, h -> h.change(game));
        refused(label + "moves", NO_PLACE, build, h -> h.moves(game));
        refused(label + "step", NO_PLACE, build, h -> h.step(game, 0, 0));
        refused(label + "captures", NO_PLACE, build, h -> h.captures(game, 0));
        refused(label + "move", NO_PLACE, build, h -> h.move(game, 0));
        refused(label + "close", NO_PLACE, build, h -> h.close(game));
        refused(label + "at", NO_PLACE, build, h -> h.at(game, 0));
        refused(label + "atAnew", NO_PLACE, build, h -> h.atAnew(game, 0));
        refused(label + "isBlack", NO_PLACE, build, h -> h.isBlack(game));
        refused(label + "isClosed", NO_PLACE, build, h -> h.isClosed(game));
        refused(label + "distance", NO_PLACE, build, h -> h.distance(game));
        refused(label + "claim", NO_PLACE, build, h -> h.claim(game));
    }

    private static void noSuchSquareOrPiece() {
        for (int square : new int[] {-1, 10, 11, Integer.MAX_VALUE, Integer.MIN_VALUE}) {
            refused("square " + square + ": place", BAD_ARGUMENT, RefusalsTest::mixed, h -> h.place(0, square, 0));
            refused("square " + square + ": at", BAD_ARGUMENT, RefusalsTest::mixed, h -> h.at(0, square));
            refused("square " + square + ": atAnew", BAD_ARGUMENT, RefusalsTest::mixed, h -> h.atAnew(0, square));
            refused("closed, square " + square + ": at", BAD_ARGUMENT, RefusalsTest::mixed, h -> h.at(3, square));
        }
        for (int piece : new int[] {-1, 5, 6, Integer.MAX_VALUE, Integer.MIN_VALUE}) {
            refused("piece " + piece, BAD_ARGUMENT, RefusalsTest::mixed, h -> h.place(0, 0, piece));
        }
        due("the last square", 3, RefusalsTest::mixed, h -> h.at(0, 9));
        due("the last square anew", 3, RefusalsTest::mixed, h -> h.atAnew(0, 9));
        due("the last square and piece", 3, RefusalsTest::mixed, h -> h.place(0, 9, 4));
        due("the first square and piece", 1, RefusalsTest::mixed, h -> h.place(0, 0, 0));
    }

    private static void noSuchMove() {
        Supplier<CheckerLog> start = () -> Houses.with("1111003333w");
        for (int move : new int[] {-1, 3, 4, 64, Integer.MAX_VALUE, Integer.MIN_VALUE}) {
            refused("move " + move + ": step", NO_PLACE, start, h -> h.step(0, move, 0));
            refused("move " + move + ": captures", NO_PLACE, start, h -> h.captures(0, move));
            refused("move " + move + ": move", NO_PLACE, start, h -> h.move(0, move));
        }
        for (int index : new int[] {-1, 2, 3, 10, Integer.MAX_VALUE, Integer.MIN_VALUE}) {
            refused("index " + index, NO_PLACE, start, h -> h.step(0, 0, index));
        }
        due("the last move", 3, start, h -> h.step(0, 2, 0));
        due("its last square", 5, start, h -> h.step(0, 2, 1));
        Supplier<CheckerLog> one = () -> Houses.with("0001300000w");
        Supplier<CheckerLog> two = () -> Houses.with("0103000300w");
        due("the last square of a capture of one", 6, one, h -> h.step(0, 0, 1));
        refused("no third square of one", NO_PLACE, one, h -> h.step(0, 0, 2));
        due("the last square of a capture of two", 9, two, h -> h.step(0, 0, 2));
        refused("no fourth square of two", NO_PLACE, two, h -> h.step(0, 0, 3));
        Supplier<CheckerLog> stuck = () -> Houses.with("0000000010w");
        refused("no moves at all: step", NO_PLACE, stuck, h -> h.step(0, 0, 0));
        refused("no moves at all: captures", NO_PLACE, stuck, h -> h.captures(0, 0));
        refused("no moves at all: move", NO_PLACE, stuck, h -> h.move(0, 0));
    }

    private static void noSuchClaim() {
        for (int claim : new int[] {-1, 2, 3, 60, 512, Integer.MAX_VALUE, Integer.MIN_VALUE}) {
            withoutClaim(RefusalsTest::judged, claim);
        }
        withoutClaim(CheckerLog::new, 0);
        withoutClaim(RefusalsTest::mixed, 0);
        withoutClaim(() -> {
            CheckerLog house = judged();
            house.crash(0);
            return house;
        }, 0);
        due("the last claim", '?', RefusalsTest::judged, h -> h.verdict(1));
        due("its game", 2, RefusalsTest::mixed, h -> h.gameOf(1));
    }

    private static void withoutClaim(Supplier<CheckerLog> build, int claim) {
        refused("no claim " + claim + ": judge", NO_PLACE, build, h -> h.judge(claim));
        refused("no claim " + claim + ": verdict", NO_PLACE, build, h -> h.verdict(claim));
        refused("no claim " + claim + ": gameOf", NO_PLACE, build, h -> h.gameOf(claim));
    }

    private static void noSuchRecord() {
        int records = mixed().records();
        for (int record : new int[] {-1, records, records + 1, 59, 60, Integer.MAX_VALUE, Integer.MIN_VALUE}) {
            withoutRecord(RefusalsTest::mixed, record);
        }
        withoutRecord(RefusalsTest::mixedAndFull, 60);
        withoutRecord(CheckerLog::new, 0);
        due("the last record", 'p', RefusalsTest::mixed, h -> h.kindAt(records - 1));
        due("its number", 29, RefusalsTest::mixed, h -> h.numberAt(records - 1));
        due("its game", 0, RefusalsTest::mixed, h -> h.gameAt(records - 1));
        due("it can be spoilt", true, RefusalsTest::mixed, h -> h.spoil(records - 1));
        due("the 60th can be spoilt", true, RefusalsTest::mixedAndFull, h -> h.spoil(59));
        due("the first can be spoilt", true, RefusalsTest::mixedAndFull, h -> h.spoil(0));
    }

    private static void withoutRecord(Supplier<CheckerLog> build, int record) {
        refused("no record " + record + ": spoil", NO_PLACE, build, h -> h.spoil(record));
        refused("no record " + record + ": kindAt", NO_PLACE, build, h -> h.kindAt(record));
        refused("no record " + record + ": numberAt", NO_PLACE, build, h -> h.numberAt(record));
        refused("no record " + record + ": gameAt", NO_PLACE, build, h -> h.gameAt(record));
        refused("no record " + record + ": sumAt", NO_PLACE, build, h -> h.sumAt(record));
    }

    private static void noSuchSegment() {
        for (int segment : new int[] {-1, 15, 16, 1 << 29, 1 << 30, Integer.MAX_VALUE, Integer.MIN_VALUE}) {
            refused("no segment " + segment, NO_PLACE, RefusalsTest::mixedAndFull, h -> h.segmentSum(segment));
        }
        refused("no segment of none", NO_PLACE, CheckerLog::new, h -> h.segmentSum(0));
        due("the last of 15", mixedAndFull().sumAt(59), RefusalsTest::mixedAndFull, h -> h.segmentSum(14));
    }

    private static void noSuchCells() {
        for (int cells : new int[] {-1, 241, 242, -4, Integer.MAX_VALUE, Integer.MIN_VALUE}) {
            refused(cells + " cells", BAD_ARGUMENT, RefusalsTest::mixed, h -> h.crash(cells));
        }
        due("no cells", 0, RefusalsTest::judged, h -> h.crash(0));
        due("all cells", 60, RefusalsTest::mixedAndFull, h -> h.crash(240));
    }

    // ---- closed, begun, opened, judged, spoilt, full, not told, none there

    private static void closedGames() {
        refused("closed: place", NOT_NOW, RefusalsTest::mixed, h -> h.place(3, 0, 0));
        refused("closed: change", NOT_NOW, RefusalsTest::mixed, h -> h.change(3));
        refused("closed: close", NOT_NOW, RefusalsTest::mixed, h -> h.close(3));
        refused("closed: claim", NOT_NOW, RefusalsTest::mixed, h -> h.claim(3));
        refused("closed: step", NO_PLACE, RefusalsTest::mixed, h -> h.step(3, 0, 0));
        refused("closed: captures", NO_PLACE, RefusalsTest::mixed, h -> h.captures(3, 0));
        refused("closed: move", NO_PLACE, RefusalsTest::mixed, h -> h.move(3, 0));
        due("closed: moves", 0, RefusalsTest::mixed, h -> h.moves(3));
        due("closed: at", 1, RefusalsTest::mixed, h -> h.at(3, 0));
        due("closed: atAnew", 1, RefusalsTest::mixed, h -> h.atAnew(3, 0));
        due("closed: isBlack", true, RefusalsTest::mixed, h -> h.isBlack(3));
    }

    private static void begunGames() {
        refused("moved: place", NOT_NOW, RefusalsTest::mixed, h -> h.place(1, 0, 0));
        refused("moved: change", NOT_NOW, RefusalsTest::mixed, h -> h.change(1));
        refused("claimed: place", NOT_NOW, RefusalsTest::mixed, h -> h.place(2, 0, 0));
        refused("claimed: change", NOT_NOW, RefusalsTest::mixed, h -> h.change(2));
        refused("a claim that was judged: place", NOT_NOW, RefusalsTest::judged, h -> h.place(0, 0, 0));
        refused("a claim that was judged: change", NOT_NOW, RefusalsTest::judged, h -> h.change(0));
        due("another game's claims do not count", 1, RefusalsTest::mixed, h -> h.place(0, 0, 0));
        due("nor its moves", true, RefusalsTest::mixed, h -> h.change(0));
        due("a moved game is closed", 2, RefusalsTest::mixed, h -> h.close(1));
        due("a claimed game is claimed again", 2, RefusalsTest::mixed, h -> h.claim(2));
        due("a claimed game is moved", 1, RefusalsTest::mixed, h -> h.move(2, 0));
    }

    private static void fiveGames() {
        refused("one of five was dropped", NOT_NOW, RefusalsTest::mixed, CheckerLog::open);
        Supplier<CheckerLog> five = () -> {
            CheckerLog house = new CheckerLog();
            for (int game = 0; game < 5; game++) {
                house.open();
            }
            return house;
        };
        refused("five are there", NOT_NOW, five, CheckerLog::open);
        due("the fifth", 4, () -> {
            CheckerLog house = new CheckerLog();
            for (int game = 0; game < 4; game++) {
                house.open();
            }
            return house;
        }, CheckerLog::open);
    }

    private static void judgedClaims() {
        refused("refused already", NOT_NOW, RefusalsTest::judged, h -> h.judge(0));
        refused("granted already", NOT_NOW, () -> {
            CheckerLog house = Houses.with("0010300000w");
            house.claim(0);
            Houses.fillRanks(house, 2);
            house.judge(0);
            return house;
        }, h -> h.judge(0));
        due("one that is open", 'r', RefusalsTest::judged, h -> h.judge(1));
    }

    private static void spoiltLogs() {
        for (int record : new int[] {0, 3, mixed().records() - 1}) {
            refused("spoilt at " + record, NOT_NOW, () -> {
                CheckerLog house = mixed();
                house.spoil(record);
                return house;
            }, CheckerLog::compact);
        }
        refused("spoilt twice", NOT_NOW, () -> {
            CheckerLog house = mixed();
            house.spoil(2);
            house.spoil(2);
            return house;
        }, CheckerLog::compact);
        due("none is spoilt", 3, RefusalsTest::mixed, CheckerLog::compact);
    }

    private static void fullLogs() {
        Supplier<CheckerLog> full = () -> {
            CheckerLog house = new CheckerLog();
            Houses.setUp(house, LOST_IN_0);
            house.open();
            house.claim(0);
            house.claim(1);
            Houses.fillLog(house);
            return house;
        };
        refused("full: open", FULL, full, CheckerLog::open);
        refused("full: place", FULL, RefusalsTest::mixedAndFull, h -> h.place(0, 0, 0));
        refused("full: change", FULL, RefusalsTest::mixedAndFull, h -> h.change(0));
        refused("full: move", FULL, full, h -> h.move(1, 0));
        refused("full: close", FULL, full, h -> h.close(0));
        refused("full: fill", FULL, full, CheckerLog::fill);
        refused("full: claim", FULL, full, h -> h.claim(0));
        refused("full, and it can be judged", FULL, full, h -> h.judge(0));
        due("full, and it stays open", '?', full, h -> h.judge(1));
        due("full: flush", 60, full, CheckerLog::flush);
        due("full: crash", 0, full, h -> h.crash(0));
        due("full: spoil", true, full, h -> h.spoil(59));
        due("full: compact", 0, full, CheckerLog::compact);
        due("full: moves", 3, full, h -> h.moves(1));
    }

    private static void notTold() {
        refused("no ranks", NOT_TOLD, () -> Houses.with(LOST_IN_0), h -> h.distance(0));
        refused("too many pieces", NOT_TOLD, RefusalsTest::mixed, h -> h.distance(0));
        refused("closed, too many pieces", NOT_TOLD, RefusalsTest::mixed, h -> h.distance(3));
        due("told", 0, RefusalsTest::judged, h -> h.distance(0));
    }

    private static void noneThere() {
        refused("no records", NONE, CheckerLog::new, CheckerLog::keptShare);
        refused("no games", NONE, CheckerLog::new, CheckerLog::meanPieces);
        refused("no open games", NONE, () -> {
            CheckerLog house = new CheckerLog();
            house.open();
            house.close(0);
            return house;
        }, CheckerLog::meanPieces);
        refused("games dropped", NONE, () -> {
            CheckerLog house = new CheckerLog();
            house.open();
            house.close(0);
            house.compact();
            return house;
        }, CheckerLog::keptShare);
    }

    // ---- which of several exceptions is thrown

    private static void gameAheadOfTheRest() {
        for (int game : new int[] {-1, 4, 5}) {
            String label = "game " + game + " ahead of ";
            refused(label + "the square: place", NO_PLACE, RefusalsTest::mixed, h -> h.place(game, 10, 0));
            refused(label + "the piece: place", NO_PLACE, RefusalsTest::mixed, h -> h.place(game, 0, 5));
            refused(label + "the square: at", NO_PLACE, RefusalsTest::mixed, h -> h.at(game, 10));
            refused(label + "the square: atAnew", NO_PLACE, RefusalsTest::mixed, h -> h.atAnew(game, -1));
            refused(label + "full: place", NO_PLACE, RefusalsTest::mixedAndFull, h -> h.place(game, 10, 5));
            refused(label + "full: change", NO_PLACE, RefusalsTest::mixedAndFull, h -> h.change(game));
            refused(label + "full: move", NO_PLACE, RefusalsTest::mixedAndFull, h -> h.move(game, 0));
            refused(label + "full: close", NO_PLACE, RefusalsTest::mixedAndFull, h -> h.close(game));
            refused(label + "full: claim", NO_PLACE, RefusalsTest::mixedAndFull, h -> h.claim(game));
        }
        refused("move ahead of full", NO_PLACE, RefusalsTest::mixedAndFull, h -> h.move(1, 99));
        refused("closed game's move ahead of full", NO_PLACE, RefusalsTest::mixedAndFull, h -> h.move(3, 0));
        refused("claim ahead of full", NO_PLACE, RefusalsTest::mixedAndFull, h -> h.judge(0));
        refused("claim ahead of full", NO_PLACE, RefusalsTest::mixedAndFull, h -> h.judge(2));
    }

    private static void squareAheadOfTheRest() {
        for (int game = 1; game <= 3; game++) {
            int g = game;
            refused("square ahead of closed or begun, " + g, BAD_ARGUMENT, RefusalsTest::mixed, h -> h.place(g, 10, 0));
            refused("piece ahead of closed or begun, " + g, BAD_ARGUMENT, RefusalsTest::mixed, h -> h.place(g, 0, 5));
            refused("square ahead of all, " + g, BAD_ARGUMENT, RefusalsTest::mixedAndFull, h -> h.place(g, -1, 0));
            refused("piece ahead of all, " + g, BAD_ARGUMENT, RefusalsTest::mixedAndFull, h -> h.place(g, 0, -1));
        }
        refused("square ahead of full", BAD_ARGUMENT, RefusalsTest::mixedAndFull, h -> h.place(0, 10, 0));
        refused("piece ahead of full", BAD_ARGUMENT, RefusalsTest::mixedAndFull, h -> h.place(0, 0, 5));
    }

    private static void closedAheadOfFull() {
        for (int game = 1; game <= 3; game++) {
            int g = game;
            String label = "closed or begun ahead of full, " + g;
            refused(label + ": place", NOT_NOW, RefusalsTest::mixedAndFull, h -> h.place(g, 0, 0));
            refused(label + ": change", NOT_NOW, RefusalsTest::mixedAndFull, h -> h.change(g));
        }
        refused("closed ahead of full: close", NOT_NOW, RefusalsTest::mixedAndFull, h -> h.close(3));
        refused("closed ahead of full: claim", NOT_NOW, RefusalsTest::mixedAndFull, h -> h.claim(3));
        refused("judged ahead of full", NOT_NOW, RefusalsTest::judgedAndFull, h -> h.judge(0));
        refused("five games ahead of full", NOT_NOW, RefusalsTest::mixedAndFull, CheckerLog::open);
    }
}
