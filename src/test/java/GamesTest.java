/** Promises 1 to 14: a new object and the games. */
public final class GamesTest {
    private static final String NO_PLACE = "throws.IndexOutOfBoundsException";
    private static final String BAD_ARGUMENT = "throws.IllegalArgumentException";
    private static final String NOT_NOW = "throws.UnsupportedOperationException";
    private static final String FULL = "throws.IllegalStateException";

    private static final Check CHECK = new Check();

    public static void main(String[] args) {
        promise1NewObject();
        promise2Open();
        promise3Place();
        promise4Change();
        promise5Moves();
        promise6Step();
        promise7Captures();
        promise8Move();
        promise8Crowning();
        promise9Close();
        promise10At();
        promise11AtAnew();
        promise11AllSquares();
        promise12IsBlack();
        promise13IsClosed();
        promise14Games();
        throwingChangesNothing();
        CHECK.end("GamesTest");
    }

    private static void promise1NewObject() {
        CheckerLog house = new CheckerLog();
        CHECK.due("1: games", 0, house::games);
        CHECK.due("1: records", 0, house::records);
        CHECK.due("1: ranks", 0, house::ranks);
        CHECK.due("1: claims", 0, house::claims);
        CHECK.due("1: captured", 0, house::captured);
        CHECK.due("1: isWhole", false, house::isWhole);
        CHECK.due("1: isSound", true, house::isSound);
        CHECK.due("1: flush", 0, house::flush);
        CHECK.due("1: crash", 0, () -> house.crash(240));
        CHECK.due("1: compact", 0, house::compact);
        CheckerLog other = new CheckerLog();
        house.open();
        CHECK.due("1: objects share nothing", 0, other::games);
    }

    private static void promise2Open() {
        CheckerLog house = new CheckerLog();
        for (int game = 0; game < 5; game++) {
            CHECK.due("2: open", game, house::open);
        }
        CHECK.due("2: start", "1111003333w", () -> Houses.boardOf(house, 4));
        CHECK.due("2: record", "o 4 0", () -> Houses.recordOf(house, 4));
        CHECK.due("2: a sixth", NOT_NOW, house::open);
        Houses.fillLog(house);
        CHECK.due("2: a sixth in a full log", NOT_NOW, house::open);

        CheckerLog full = new CheckerLog();
        Houses.fillLog(full);
        CHECK.due("2: full", FULL, full::open);

        CheckerLog closed = new CheckerLog();
        for (int game = 0; game < 5; game++) {
            closed.open();
            closed.close(game);
            closed.compact();
        }
        CHECK.due("2: dropped games were opened", NOT_NOW, closed::open);
    }

    private static void promise3Place() {
        CheckerLog house = new CheckerLog();
        house.open();
        CHECK.due("3: on an empty square", 0, () -> house.place(0, 4, 2));
        CHECK.due("3: in place of another", 2, () -> house.place(0, 4, 3));
        CHECK.due("3: none", 3, () -> house.place(0, 4, 0));
        CHECK.due("3: the same", 1, () -> house.place(0, 0, 1));
        CHECK.due("3: last square and piece", 3, () -> house.place(0, 9, 4));
        CHECK.due("3: record", "p 0 49", () -> Houses.recordOf(house, 5));
        CHECK.due("3: records", 6, house::records);
        CHECK.due("3: board", "1111003334w", () -> Houses.boardOf(house, 0));
        CHECK.due("3: no game", NO_PLACE, () -> house.place(1, 10, 5));
        CHECK.due("3: game -1", NO_PLACE, () -> house.place(-1, 0, 0));
        CHECK.due("3: square 10", BAD_ARGUMENT, () -> house.place(0, 10, 1));
        CHECK.due("3: square -1", BAD_ARGUMENT, () -> house.place(0, -1, 1));
        CHECK.due("3: piece 5", BAD_ARGUMENT, () -> house.place(0, 0, 5));
        CHECK.due("3: piece -1", BAD_ARGUMENT, () -> house.place(0, 0, -1));
        CHECK.due("3: a man in its last row stays a man", 3, () -> house.place(0, 8, 1));
        CHECK.due("3: a man in its last row", 1, () -> house.at(0, 8));

        house.open();
        house.move(0, 0);
        CHECK.due("3: after a move", NOT_NOW, () -> house.place(0, 0, 0));
        CHECK.due("3: bad square after a move", BAD_ARGUMENT, () -> house.place(0, 10, 0));
        CHECK.due("3: another game goes on", 1, () -> house.place(1, 0, 0));
        house.claim(1);
        CHECK.due("3: after a claim", NOT_NOW, () -> house.place(1, 0, 0));
        house.open();
        house.close(2);
        CHECK.due("3: closed", NOT_NOW, () -> house.place(2, 0, 0));
        house.open();
        Houses.fillLog(house);
        CHECK.due("3: full", FULL, () -> house.place(3, 0, 0));
        CHECK.due("3: full and closed", NOT_NOW, () -> house.place(2, 0, 0));
    }

    private static void promise4Change() {
        CheckerLog house = new CheckerLog();
        house.open();
        CHECK.due("4: to black", true, () -> house.change(0));
        CHECK.due("4: back", false, () -> house.change(0));
        CHECK.due("4: record", "t 0 0", () -> Houses.recordOf(house, 2));
        CHECK.due("4: no game", NO_PLACE, () -> house.change(1));
        house.move(0, 0);
        CHECK.due("4: after a move", NOT_NOW, () -> house.change(0));
        house.open();
        house.claim(1);
        CHECK.due("4: after a claim", NOT_NOW, () -> house.change(1));
        house.open();
        house.close(2);
        CHECK.due("4: closed", NOT_NOW, () -> house.change(2));
        house.open();
        Houses.fillLog(house);
        CHECK.due("4: full", FULL, () -> house.change(3));
        CHECK.due("4: full and closed", NOT_NOW, () -> house.change(2));
        CHECK.due("4: not changed", false, () -> house.isBlack(3));
    }

    private static void promise5Moves() {
        CHECK.due("5: start", 3, () -> Houses.with("1111003333w").moves(0));
        CHECK.due("5: black's start", 3, () -> Houses.with("1111003333b").moves(0));
        CHECK.due("5: no pieces", 0, () -> Houses.with("0000000000w").moves(0));
        CHECK.due("5: a white man goes up only", 2, () -> Houses.with("0000100000w").moves(0));
        CHECK.due("5: a black man goes down only", 2, () -> Houses.with("0000300000b").moves(0));
        CHECK.due("5: a king goes all ways", 4, () -> Houses.with("0000200000w").moves(0));
        CHECK.due("5: a black king too", 4, () -> Houses.with("0000400000b").moves(0));
        CHECK.due("5: a man in its last row has none", 0, () -> Houses.with("0000000010w").moves(0));
        CHECK.due("5: a black man in its last row", 0, () -> Houses.with("3000000000b").moves(0));
        CHECK.due("5: who can capture must", 1, () -> Houses.with("0010300002w").moves(0));
        CheckerLog house = new CheckerLog();
        house.open();
        house.close(0);
        CHECK.due("5: closed", 0, () -> house.moves(0));
        CHECK.due("5: no game", NO_PLACE, () -> house.moves(1));
        CHECK.due("5: game -1", NO_PLACE, () -> house.moves(-1));
    }

    private static void promise6Step() {
        CheckerLog start = Houses.with("1111003333w");
        CHECK.due("6: first", "24", () -> Houses.moveOf(start, 0, 0));
        CHECK.due("6: second", "34", () -> Houses.moveOf(start, 0, 1));
        CHECK.due("6: third", "35", () -> Houses.moveOf(start, 0, 2));
        CHECK.due("6: no move", NO_PLACE, () -> start.step(0, 3, 0));
        CHECK.due("6: move -1", NO_PLACE, () -> start.step(0, -1, 0));
        CHECK.due("6: no square", NO_PLACE, () -> start.step(0, 0, 2));
        CHECK.due("6: square -1", NO_PLACE, () -> start.step(0, 0, -1));
        CHECK.due("6: no game", NO_PLACE, () -> start.step(1, 0, 0));
        CHECK.due("6: far off", NO_PLACE, () -> start.step(0, Integer.MAX_VALUE, Integer.MIN_VALUE));
        CheckerLog king = Houses.with("0000200000w");
        CHECK.due("6: king's first", "42", () -> Houses.moveOf(king, 0, 0));
        CHECK.due("6: king's last", "47", () -> Houses.moveOf(king, 0, 3));
        CheckerLog two = Houses.with("1001000400b");
        CHECK.due("6: a capture goes to the square behind", "36", () ->
                Houses.moveOf(Houses.with("0003100000b"), 0, 0));
        CHECK.due("6: a capture of two", "149", () -> Houses.moveOf(Houses.with("0103000300w"), 0, 0));
        CHECK.due("6: a move has no more squares", NO_PLACE, () -> Houses.with("0103000300w").step(0, 0, 3));
        CHECK.due("6: no capture over a square that is taken behind", "74", () -> Houses.moveOf(two, 0, 0));
        CheckerLog closed = Houses.with("1111003333w");
        closed.close(0);
        CHECK.due("6: closed", NO_PLACE, () -> closed.step(0, 0, 0));
    }

    private static void promise7Captures() {
        CheckerLog start = Houses.with("1111003333w");
        CHECK.due("7: none", 0, () -> start.captures(0, 0));
        CHECK.due("7: one", 1, () -> Houses.with("0010300000w").captures(0, 0));
        CHECK.due("7: two", 2, () -> Houses.with("0103000300w").captures(0, 0));
        CHECK.due("7: a man captures backward", 1, () -> Houses.with("0000300100w").captures(0, 0));
        CheckerLog most = Houses.with("0103010300w");
        CHECK.due("7: only the most are moves", 1, () -> most.moves(0));
        CHECK.due("7: the most", 2, () -> most.captures(0, 0));
        CheckerLog later = Houses.with("0003200310w");
        CHECK.due("7: a better one that begins higher", 1, () -> later.moves(0));
        CHECK.due("7: its squares", "850", () -> Houses.moveOf(later, 0, 0));
        CHECK.due("7: its pieces", 2, () -> later.captures(0, 0));
        CHECK.due("7: no move", NO_PLACE, () -> start.captures(0, 3));
        CHECK.due("7: move -1", NO_PLACE, () -> start.captures(0, -1));
        CHECK.due("7: no game", NO_PLACE, () -> start.captures(1, 0));
        start.close(0);
        CHECK.due("7: closed", NO_PLACE, () -> start.captures(0, 0));
    }

    private static void promise8Move() {
        CheckerLog house = new CheckerLog();
        house.open();
        CHECK.due("8: the other side must capture", 1, () -> house.move(0, 0));
        CHECK.due("8: board", "1101103333b", () -> Houses.boardOf(house, 0));
        CHECK.due("8: record", "m 0 0", () -> Houses.recordOf(house, 1));
        CHECK.due("8: no move", NO_PLACE, () -> house.move(0, 1));
        CHECK.due("8: move -1", NO_PLACE, () -> house.move(0, -1));
        CHECK.due("8: no game", NO_PLACE, () -> house.move(1, 0));
        CheckerLog two = Houses.with("0103000303w");
        CHECK.due("8: a capture to a square that is taken", "14", () -> Houses.moveOf(two, 0, 0));
        CheckerLog three = Houses.with("0103000300w");
        CHECK.due("8: no move is left", 0, () -> three.move(0, 0));
        CHECK.due("8: both are gone", "0000000002b", () -> Houses.boardOf(three, 0));
        CheckerLog claimed = Houses.with("1111003333w");
        claimed.claim(0);
        CHECK.due("8: a game goes on in spite of claims", 1, () -> claimed.move(0, 0));
        Houses.fillLog(claimed);
        CHECK.due("8: full", FULL, () -> claimed.move(0, 0));
        CHECK.due("8: no move in a full log", NO_PLACE, () -> claimed.move(0, 9));
        house.close(0);
        CHECK.due("8: closed", NO_PLACE, () -> house.move(0, 0));
    }

    private static void promise8Crowning() {
        CheckerLog walk = Houses.with("0000001000w");
        walk.move(0, 0);
        CHECK.due("8: a white man becomes a king", "0000000020b", () -> Houses.boardOf(walk, 0));
        CheckerLog down = Houses.with("0030000000b");
        down.move(0, 0);
        CHECK.due("8: a black man becomes a king", "4000000000w", () -> Houses.boardOf(down, 0));
        CheckerLog early = Houses.with("0000100000w");
        early.move(0, 0);
        CHECK.due("8: not ahead of the last row", "0000001000b", () -> Houses.boardOf(early, 0));
        CheckerLog low = Houses.with("0010000000b");
        CHECK.due("8: white's men are not black's to move", 0, () -> low.moves(0));
        CheckerLog king = Houses.with("0000004000b");
        king.move(0, 1);
        CHECK.due("8: a black king in row 4", "0000000040w", () -> Houses.boardOf(king, 0));
        CheckerLog back = Houses.with("0000000310w");
        back.move(0, 0);
        CHECK.due("8: a man that leaves its last row stays a man", "0000010000b", () -> Houses.boardOf(back, 0));
    }

    private static void promise9Close() {
        CheckerLog house = new CheckerLog();
        house.open();
        house.open();
        house.open();
        CHECK.due("9: close", 2, () -> house.close(1));
        CHECK.due("9: record", "x 1 0", () -> Houses.recordOf(house, 3));
        CHECK.due("9: again", NOT_NOW, () -> house.close(1));
        CHECK.due("9: no game", NO_PLACE, () -> house.close(3));
        CHECK.due("9: close", 1, () -> house.close(0));
        Houses.fillLog(house);
        CHECK.due("9: full", FULL, () -> house.close(2));
        CHECK.due("9: full and closed", NOT_NOW, () -> house.close(0));
        CheckerLog single = new CheckerLog();
        single.open();
        CHECK.due("9: the last open one", 0, () -> single.close(0));
    }

    private static void promise10At() {
        CheckerLog house = Houses.with("0123400000w");
        for (int square = 0; square < 10; square++) {
            int s = square;
            CHECK.due("10: at " + s, s < 5 ? s : 0, () -> house.at(0, s));
        }
        CHECK.due("10: square 10", BAD_ARGUMENT, () -> house.at(0, 10));
        CHECK.due("10: square -1", BAD_ARGUMENT, () -> house.at(0, -1));
        CHECK.due("10: no game, no square", NO_PLACE, () -> house.at(1, 10));
        house.close(0);
        CHECK.due("10: closed", 4, () -> house.at(0, 4));
    }

    private static void promise11AtAnew() {
        CheckerLog house = new CheckerLog();
        house.open();
        house.open();
        house.place(0, 4, 2);
        house.place(1, 5, 4);
        house.place(0, 4, 3);
        CHECK.due("11: anew", 3, () -> house.atAnew(0, 4));
        CHECK.due("11: another game", 4, () -> house.atAnew(1, 5));
        house.spoil(4);
        CHECK.due("11: up to the spoilt one", 2, () -> house.atAnew(0, 4));
        CHECK.due("11: the board itself", 3, () -> house.at(0, 4));
        house.spoil(2);
        CHECK.due("11: up to the first spoilt one", 0, () -> house.atAnew(0, 4));
        CHECK.due("11: it does not go on behind", 0, () -> house.atAnew(1, 5));
        CHECK.due("11: the start", 1, () -> house.atAnew(1, 0));
        house.spoil(1);
        CHECK.due("11: not opened in these", 0, () -> house.atAnew(1, 0));
        CHECK.due("11: opened in these", 1, () -> house.atAnew(0, 0));
        CHECK.due("11: no game", NO_PLACE, () -> house.atAnew(2, 10));
        CHECK.due("11: square 10", BAD_ARGUMENT, () -> house.atAnew(0, 10));
        CHECK.due("11: square -1", BAD_ARGUMENT, () -> house.atAnew(0, -1));
        CheckerLog moved = new CheckerLog();
        moved.open();
        moved.move(0, 0);
        moved.move(0, 0);
        CHECK.due("11: moves are made anew", 0, () -> moved.atAnew(0, 7));
        CHECK.due("11: captures too", 0, () -> moved.atAnew(0, 4));
        CHECK.due("11: to where", 3, () -> moved.atAnew(0, 2));
    }

    /** Nothing is spoilt: so the log alone tells what is there, after all that is done with it. */
    private static void promise11AllSquares() {
        CheckerLog house = Houses.with("0103000300w");
        house.move(0, 0);
        house.open();
        house.open();
        house.move(1, 2);
        house.close(2);
        sameAnew("11: written", house, 0, 2);
        house.compact();
        house.move(1, 0);
        sameAnew("11: compacted", house, 0, 1);
        house.crash(3);
        sameAnew("11: crashed", house, 0, 1);
        CHECK.due("11: a dropped game", NO_PLACE, () -> house.atAnew(2, 0));
        house.spoil(0);
        CHECK.due("11: the first record is spoilt", 0, () -> house.atAnew(1, 0));
        house.crash(240);
        CHECK.due("11: all is cut", NO_PLACE, () -> house.atAnew(1, 0));
        house.open();
        CHECK.due("11: opened again", 1, () -> house.atAnew(0, 0));
    }

    private static void sameAnew(String label, CheckerLog house, int first, int last) {
        for (int game = first; game <= last; game++) {
            for (int square = 0; square < 10; square++) {
                int g = game;
                int s = square;
                CHECK.due(label + ", " + g + " on " + s, house.at(g, s), () -> house.atAnew(g, s));
            }
        }
    }

    private static void promise12IsBlack() {
        CheckerLog house = new CheckerLog();
        house.open();
        CHECK.due("12: white at first", false, () -> house.isBlack(0));
        house.move(0, 0);
        CHECK.due("12: black after a move", true, () -> house.isBlack(0));
        house.close(0);
        CHECK.due("12: closed", true, () -> house.isBlack(0));
        CHECK.due("12: no game", NO_PLACE, () -> house.isBlack(1));
        CHECK.due("12: game -1", NO_PLACE, () -> house.isBlack(-1));
    }

    private static void promise13IsClosed() {
        CheckerLog house = new CheckerLog();
        house.open();
        house.open();
        house.close(1);
        CHECK.due("13: open", false, () -> house.isClosed(0));
        CHECK.due("13: closed", true, () -> house.isClosed(1));
        CHECK.due("13: no game", NO_PLACE, () -> house.isClosed(2));
        house.compact();
        CHECK.due("13: dropped", NO_PLACE, () -> house.isClosed(1));
    }

    private static void promise14Games() {
        CheckerLog house = new CheckerLog();
        house.open();
        house.open();
        house.close(0);
        CHECK.due("14: closed ones too", 2, house::games);
        house.compact();
        CHECK.due("14: not dropped ones", 1, house::games);
        house.crash(0);
        CHECK.due("14: after a crash", 1, house::games);
        CHECK.due("14: the other is there", false, () -> house.isClosed(1));
    }

    private static void throwingChangesNothing() {
        CheckerLog house = new CheckerLog();
        house.open();
        house.place(0, 4, 2);
        house.move(0, 0);
        house.claim(0);
        String kinds = Houses.kindsOf(house);
        String board = Houses.boardOf(house, 0);
        Check.answerOf(() -> house.place(0, 0, 0));
        Check.answerOf(() -> house.change(0));
        Check.answerOf(() -> house.move(0, 99));
        Check.answerOf(() -> house.close(7));
        Check.answerOf(() -> house.claim(7));
        Check.answerOf(() -> house.crash(241));
        CHECK.due("records stay", kinds, () -> Houses.kindsOf(house));
        CHECK.due("the board stays", board, () -> Houses.boardOf(house, 0));
    }
}
