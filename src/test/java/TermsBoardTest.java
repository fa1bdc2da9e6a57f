/** What the document's 'Terms' say of the board, of moves and of the table, a test for each sentence. */
public final class TermsBoardTest {
    private static final String NO_PLACE = "throws.IndexOutOfBoundsException";
    private static final String NOT_TOLD = "throws.NoSuchElementException";

    /** Where a king goes from each square: the rows' ends have one or two of the four. */
    private static final String[] KING_WALKS = {
        "02 03", "13", "20 24", "30 31 34 35", "42 43 46 47", "53 57", "64 68", "74 75 78 79", "86 87", "97",
    };
    private static final String[] UP_WALKS = {"02 03", "13", "24", "34 35", "46 47", "57", "68", "78 79", "", ""};
    private static final String[] DOWN_WALKS = {"", "", "20", "30 31", "42 43", "53", "64", "74 75", "86 87", "97"};

    /** All jumps that there are: from, over, to. */
    private static final String[] JUMPS = {
        "035", "134", "247", "346", "431", "479", "530", "578", "643", "742", "875", "974",
    };

    private static final Check CHECK = new Check();

    public static void main(String[] args) {
        squaresNextToEachOther();
        theStart();
        menGoForwardAndKingsAllWays();
        onlyToEmptySquares();
        jumpsFromEachSquare();
        onlyTheOtherSideIsJumped();
        onlyToAnEmptySquareBehind();
        capturesGoOn();
        capturesPassOverTheirFirstSquare();
        whoCanCaptureMust();
        onlyCapturesWithTheMost();
        capturesThatTie();
        movesInTheOrderOfTheirSquares();
        crownedByWalking();
        crownedByCapturing();
        notCrownedElsewhere();
        placedInTheLastRow();
        rankZero();
        rankOne();
        lostRanks();
        laterRanks();
        onlyBoardsOfOneOrTwoPieces();
        aRankThatTellsNone();
        CHECK.end("TermsBoardTest");
    }

    /** The board with the pieces told by a square and a piece each: "41 33" are a 1 on 4 and a 3 on 3. */
    private static String board(String pieces, char mover) {
        char[] signs = "0000000000w".toCharArray();
        for (int i = 0; i + 1 < pieces.length(); i += 3) {
            signs[pieces.charAt(i) - '0'] = pieces.charAt(i + 1);
        }
        signs[10] = mover;
        return new String(signs);
    }

    // ---- Board

    /** "Squares are next to each other diagonally, if both their rows and their columns differ by 1." */
    private static void squaresNextToEachOther() {
        for (int square = 0; square < 10; square++) {
            int s = square;
            CHECK.due("a white king on " + s, KING_WALKS[s], () -> Houses.movesOn(board(s + "2", 'w')));
            CHECK.due("a black king on " + s, KING_WALKS[s], () -> Houses.movesOn(board(s + "4", 'b')));
        }
    }

    /** "At first, white men stand on 0 to 3, black ones on 6 to 9, and white is to move." */
    private static void theStart() {
        CheckerLog house = new CheckerLog();
        house.open();
        int[] due = {1, 1, 1, 1, 0, 0, 3, 3, 3, 3};
        for (int square = 0; square < 10; square++) {
            int s = square;
            CHECK.due("the start on " + s, due[s], () -> house.at(0, s));
        }
        CHECK.due("white is to move at first", false, () -> house.isBlack(0));
    }

    // ---- Moves

    /** "A man goes to an empty square next to it, in a row above for white, below for black; a king in either." */
    private static void menGoForwardAndKingsAllWays() {
        for (int square = 0; square < 10; square++) {
            int s = square;
            CHECK.due("a white man on " + s, UP_WALKS[s], () -> Houses.movesOn(board(s + "1", 'w')));
            CHECK.due("a black man on " + s, DOWN_WALKS[s], () -> Houses.movesOn(board(s + "3", 'b')));
            CHECK.due("not black's turn, " + s, "", () -> Houses.movesOn(board(s + "3", 'w')));
            CHECK.due("not white's turn, " + s, "", () -> Houses.movesOn(board(s + "2", 'b')));
        }
    }

    /** "To an empty square": neither onto a piece of one's own nor onto one of the other side. */
    private static void onlyToEmptySquares() {
        CHECK.due("its own piece ahead", "47 68", () -> Houses.movesOn(board("41 61", 'w')));
        CHECK.due("the other's piece ahead", "47", () -> Houses.movesOn(board("41 63", 'w')));
        CHECK.due("its own pieces on both", "68 78 79", () -> Houses.movesOn(board("41 61 71", 'w')));
        CHECK.due("a king among its own", "35 68 78 79", () -> Houses.movesOn(board("21 31 42 61 71", 'w')));
        CHECK.due("a black man behind another", "20 43", () -> Houses.movesOn(board("43 23", 'b')));
    }

    /** "A piece captures by jumping over a piece of the other side next to it, in any of the four directions." */
    private static void jumpsFromEachSquare() {
        for (int from = 0; from < 10; from++) {
            for (int over = 0; over < 10; over++) {
                if (from != over) {
                    jumpsOver(from, over);
                }
            }
        }
    }

    private static void jumpsOver(int from, int over) {
        String to = "";
        for (String jump : JUMPS) {
            if (jump.charAt(0) - '0' == from && jump.charAt(1) - '0' == over) {
                to = jump.substring(2);
            }
        }
        int due = to.isEmpty() ? 0 : 1;
        for (int own = 1; own <= 4; own++) {
            for (int other = own <= 2 ? 3 : 1; other <= (own <= 2 ? 4 : 2); other++) {
                String board = board(from + "" + own + " " + over + other, own <= 2 ? 'w' : 'b');
                CheckerLog house = Houses.with(board);
                boolean moves = house.moves(0) > 0;
                CHECK.due("captures on " + board, due, () -> moves ? house.captures(0, 0) : 0);
                if (due == 1) {
                    CHECK.due("the capture on " + board, from + to, () -> Houses.movesOf(house, 0));
                }
            }
        }
    }

    /** "A piece of the other side": one's own is not jumped over. */
    private static void onlyTheOtherSideIsJumped() {
        CHECK.due("its own man", "02 34 35", () -> Houses.movesOn(board("01 31", 'w')));
        CHECK.due("its own king", "02 31 34 35", () -> Houses.movesOn(board("01 32", 'w')));
        CHECK.due("black's own man", "74 75 86", () -> Houses.movesOn(board("83 73", 'b')));
    }

    /** "To the empty square behind." */
    private static void onlyToAnEmptySquareBehind() {
        CHECK.due("the other's piece behind", "02", () -> Houses.movesOn(board("01 33 54", 'w')));
        CHECK.due("its own piece behind", "02 57", () -> Houses.movesOn(board("01 33 51", 'w')));
        CHECK.due("no square behind, left", "43 47", () -> Houses.movesOn(board("42 23 63", 'w')));
        CHECK.due("no square behind, right", "74 78 79", () -> Houses.movesOn(board("72 53", 'w')));
        CHECK.due("no square behind, above", "74 75", () -> Houses.movesOn(board("72 83 93", 'w')));
        CHECK.due("no square behind, below", "34 35", () -> Houses.movesOn(board("32 03 13", 'w')));
    }

    /** "And goes on doing so": upward and downward, kings and men. */
    private static void capturesGoOn() {
        for (int piece = 1; piece <= 4; piece++) {
            char mover = piece <= 2 ? 'w' : 'b';
            String others = piece <= 2 ? " 33 74" : " 31 72";
            for (String way : new String[] {"058", "850", "149", "941"}) {
                CheckerLog house = Houses.with(board(way.charAt(0) + "" + piece + others, mover));
                String label = "a capture of two by " + piece + ", " + way;
                CHECK.due(label, way, () -> Houses.movesOf(house, 0));
                CHECK.due(label + ", pieces", 2, () -> house.captures(0, 0));
                CHECK.due(label + ", no fourth square", NO_PLACE, () -> house.step(0, 0, 3));
                CHECK.due(label + ", moves after it", 0, () -> house.move(0, 0));
                CHECK.due(label + ", all gone", 2L, house::captured);
            }
        }
    }

    /**
     * "Its own square counts as empty meanwhile, pieces that are captured stay till the end, and none is
     * jumped over twice": the way back to the first square leads over the piece that was jumped over.
     */
    private static void capturesPassOverTheirFirstSquare() {
        for (String jump : JUMPS) {
            String from = jump.substring(0, 1);
            String over = jump.substring(1, 2);
            CheckerLog white = Houses.with(board(from + "2 " + over + "4", 'w'));
            CHECK.due("there and not back, " + jump, from + jump.charAt(2), () -> Houses.movesOf(white, 0));
            CHECK.due("captured once, " + jump, 1, () -> white.captures(0, 0));
            CheckerLog black = Houses.with(board(from + "4 " + over + "1", 'b'));
            CHECK.due("black, there and not back, " + jump, from + jump.charAt(2), () -> Houses.movesOf(black, 0));
        }
    }

    /** "Who can capture must." */
    private static void whoCanCaptureMust() {
        CHECK.due("another piece could go", "05", () -> Houses.movesOn(board("01 33 62 91", 'w')));
        CHECK.due("the piece itself could go", "27", () -> Houses.movesOn(board("22 43", 'w')));
        CHECK.due("a later one captures", "94", () -> Houses.movesOn(board("02 92 74", 'w')));
        CHECK.due("black must, too", "36", () -> Houses.movesOn(board("33 41 94", 'b')));
    }

    /** "And by a capture with the most pieces. A capture goes on as long as it can." */
    private static void onlyCapturesWithTheMost() {
        CHECK.due("two, and not the one ahead of it", "149", () -> Houses.movesOn(board("01 11 33 74 81", 'w')));
        CHECK.due("two, and not the one behind it", "058", () -> Houses.movesOn(board("01 11 33 74 91", 'w')));
        CHECK.due("two, and not the two ahead of it", "850", () -> Houses.movesOn(board("33 41 73 81", 'w')));
        CHECK.due("it does not stop short", 1, () -> Houses.with(board("02 33 74", 'w')).moves(0));
    }

    /** Captures with equally many pieces are moves side by side. */
    private static void capturesThatTie() {
        CHECK.due("one each, by two men", "05 14", () -> Houses.movesOn(board("01 11 33", 'w')));
        CHECK.due("one each, by one man", "41 49", () -> Houses.movesOn(board("41 33 73", 'w')));
        CHECK.due("one each, by a black king", "50 58", () -> Houses.movesOn(board("54 31 72", 'b')));
        CHECK.due("two each", "058 149", () -> Houses.movesOn(board("01 11 33 73", 'w')));
        CHECK.due("two each, from above", "850 941", () -> Houses.movesOn(board("83 93 31 72", 'b')));
        CHECK.due("three with one each", "27 36", () -> Houses.movesOn(board("22 32 43", 'w')));
    }

    /** "It is told by its squares, from the first one on. Moves are numbered from 0, by comparing their squares." */
    private static void movesInTheOrderOfTheirSquares() {
        CHECK.due("the start", "24 34 35", () -> Houses.movesOn("1111003333w"));
        CHECK.due("black's start", "64 74 75", () -> Houses.movesOn("1111003333b"));
        CHECK.due("kings", "42 43 46 47 53 57", () -> Houses.movesOn(board("42 52", 'w')));
        CheckerLog house = Houses.with("1111003333w");
        CHECK.due("there is no fourth move", NO_PLACE, () -> house.move(0, 3));
        house.move(0, 2);
        CHECK.due("the last number is 35", "1110013333b", () -> Houses.boardOf(house, 0));
    }

    /** "A man that ends a move in the last row of its way, 4 for white, 0 for black, becomes a king." */
    private static void crownedByWalking() {
        CHECK.due("white, 68", board("82", 'b'), () -> Houses.boardAfter(board("61", 'w'), 0));
        CHECK.due("white, 78", board("82", 'b'), () -> Houses.boardAfter(board("71", 'w'), 0));
        CHECK.due("white, 79", board("92", 'b'), () -> Houses.boardAfter(board("71", 'w'), 1));
        CHECK.due("black, 20", board("04", 'w'), () -> Houses.boardAfter(board("23", 'b'), 0));
        CHECK.due("black, 30", board("04", 'w'), () -> Houses.boardAfter(board("33", 'b'), 0));
        CHECK.due("black, 31", board("14", 'w'), () -> Houses.boardAfter(board("33", 'b'), 1));
    }

    private static void crownedByCapturing() {
        CHECK.due("white, 58", board("82", 'b'), () -> Houses.boardAfter(board("51 73", 'w'), 0));
        CHECK.due("white, 49", board("92", 'b'), () -> Houses.boardAfter(board("41 73", 'w'), 0));
        CHECK.due("white, 058", board("82", 'b'), () -> Houses.boardAfter(board("01 33 73", 'w'), 0));
        CHECK.due("black, 50", board("04", 'w'), () -> Houses.boardAfter(board("53 31", 'b'), 0));
        CHECK.due("black, 41", board("14", 'w'), () -> Houses.boardAfter(board("43 31", 'b'), 0));
        CHECK.due("black, 941", board("14", 'w'), () -> Houses.boardAfter(board("93 31 71", 'b'), 0));
    }

    /** The last row of the other side, and the rows ahead of the last one, crown nobody. */
    private static void notCrownedElsewhere() {
        CHECK.due("white, into row 3", board("61", 'b'), () -> Houses.boardAfter(board("41", 'w'), 0));
        CHECK.due("white, captures into row 3", board("61", 'b'), () -> Houses.boardAfter(board("31 43", 'w'), 0));
        CHECK.due("white, captures into row 0", board("01", 'b'), () -> Houses.boardAfter(board("51 33", 'w'), 0));
        CHECK.due("white, captures twice into row 0", board("11", 'b'),
                () -> Houses.boardAfter(board("91 73 33", 'w'), 0));
        CHECK.due("black, into row 1", board("23", 'w'), () -> Houses.boardAfter(board("43", 'b'), 0));
        CHECK.due("black, captures into row 1", board("23", 'w'), () -> Houses.boardAfter(board("73 41", 'b'), 0));
        CHECK.due("black, captures into row 4", board("83", 'w'), () -> Houses.boardAfter(board("53 71", 'b'), 0));
        CHECK.due("black, captures twice into row 4", board("93", 'w'),
                () -> Houses.boardAfter(board("13 31 71", 'b'), 0));
        CHECK.due("a white king stays one", board("92", 'b'), () -> Houses.boardAfter(board("72", 'w'), 3));
        CHECK.due("a black king stays one", board("04", 'w'), () -> Houses.boardAfter(board("24", 'b'), 0));
    }

    /** "One that is placed there stays a man till then." */
    private static void placedInTheLastRow() {
        for (String placed : new String[] {"81w", "91w", "03b", "13b"}) {
            int square = placed.charAt(0) - '0';
            String board = board(placed.substring(0, 2), placed.charAt(2));
            CheckerLog house = Houses.with(board);
            CHECK.due("it stays a man, " + placed, placed.charAt(1) - '0', () -> house.at(0, square));
            CHECK.due("it stays one anew, " + placed, placed.charAt(1) - '0', () -> house.atAnew(0, square));
            CHECK.due("it goes nowhere, " + placed, "", () -> Houses.movesOf(house, 0));
        }
        CHECK.due("it captures out of the row, as a man", board("51", 'b'),
                () -> Houses.boardAfter(board("81 74", 'w'), 0));
        CHECK.due("black's, too", board("43", 'w'), () -> Houses.boardAfter(board("13 31", 'b'), 0));
        CheckerLog house = Houses.with(board("81 73 93", 'w'));
        house.move(0, 0);
        house.move(0, 0);
        CHECK.due("it comes back", board("51 73", 'w'), () -> Houses.boardOf(house, 0));
        house.move(0, 0);
        CHECK.due("and then becomes a king", board("82", 'b'), () -> Houses.boardOf(house, 0));
        CheckerLog other = Houses.with(board("81 61", 'w'));
        CHECK.due("another's move leaves it a man", "", () -> Houses.movesOf(other, 0));
        CheckerLog stays = Houses.with(board("81 21", 'w'));
        stays.move(0, 0);
        CHECK.due("another's move does not crown it", board("81 41", 'b'), () -> Houses.boardOf(stays, 0));
    }

    // ---- Table

    private static String told(String board, int ranks) {
        CheckerLog house = Houses.with(board);
        Houses.fillRanks(house, ranks);
        return Check.answerOf(() -> house.distance(0));
    }

    /** Told by its own rank, and not ahead of it. */
    private static void isOfRank(String board, int rank) {
        CHECK.due(board + " ahead of rank " + rank, NOT_TOLD, () -> told(board, rank));
        CHECK.due(board + " by rank " + rank, rank, () -> told(board, rank + 1));
        CHECK.due(board + " when the table is whole", rank, () -> told(board, 9));
    }

    /** "Filling the rank 0 tells all in which the one to move has no move as lost in 0." */
    private static void rankZero() {
        isOfRank(board("42", 'b'), 0);
        isOfRank(board("43", 'w'), 0);
        isOfRank(board("02 91", 'b'), 0);
        isOfRank(board("81", 'w'), 0);
        isOfRank(board("13", 'b'), 0);
        isOfRank(board("61 81", 'w'), 0);
        isOfRank(board("61 83", 'w'), 0);
        isOfRank(board("23 01", 'b'), 0);
        isOfRank(board("81 04", 'w'), 0);
    }

    /** "Won in n, if a move leads to a board lost in n - 1": one is enough. */
    private static void rankOne() {
        isOfRank(board("42", 'w'), 1);
        isOfRank(board("43", 'b'), 1);
        isOfRank(board("21 43", 'w'), 1);
        isOfRank(board("74 41", 'b'), 1);
        isOfRank(board("03 41", 'w'), 1);
    }

    /** "As lost in n, if there is a move, and all lead to boards that are told as won, one of them in n - 1." */
    private static void lostRanks() {
        isOfRank(board("21 73", 'w'), 2);
        isOfRank(board("52 43", 'w'), 2);
        CHECK.due("one of its moves is not told as won", NOT_TOLD, () -> told(board("21 74", 'b'), 9));
        isOfRank(board("01 14", 'w'), 4);
        isOfRank(board("01 93", 'w'), 6);
        isOfRank(board("01 93", 'b'), 6);
    }

    private static void laterRanks() {
        isOfRank(board("81 93", 'w'), 0);
        isOfRank(board("71 93", 'w'), 3);
        isOfRank(board("31 94", 'w'), 3);
        isOfRank(board("11 73", 'w'), 5);
        isOfRank(board("02 83", 'b'), 6);
    }

    /** "It is of boards with 1 or 2 pieces and who is to move." */
    private static void onlyBoardsOfOneOrTwoPieces() {
        CHECK.due("no pieces", NOT_TOLD, () -> told(board("", 'w'), 9));
        CHECK.due("no pieces, black", NOT_TOLD, () -> told(board("", 'b'), 9));
        CHECK.due("one piece", 0, () -> told(board("01", 'b'), 1));
        CHECK.due("two pieces", 0, () -> told(board("01 12", 'b'), 1));
        CHECK.due("three pieces, and no move", NOT_TOLD, () -> told(board("01 12 22", 'b'), 9));
        CHECK.due("the same pieces, the other to move", 1, () -> told(board("01", 'w'), 9));
        CHECK.due("the start", NOT_TOLD, () -> told("1111003333w", 9));
    }

    /**
     * "It is whole as soon as a rank tells none; a next rank is filled all the same, with its record, and
     * tells none."
     */
    private static void aRankThatTellsNone() {
        CheckerLog house = new CheckerLog();
        for (int rank = 0; rank < 7; rank++) {
            CHECK.due("a rank that tells some", true, () -> house.fill() > 0);
            CHECK.due("not whole yet", false, house::isWhole);
        }
        CHECK.due("rank 7 tells none", 0, house::fill);
        CHECK.due("whole as soon as that", true, house::isWhole);
        for (int rank = 8; rank < 60; rank++) {
            int r = rank;
            CHECK.due("a next rank tells none", 0, house::fill);
            CHECK.due("its record", "f -1 " + r, () -> Houses.recordOf(house, r));
        }
        CHECK.due("all are ranks", 60, house::ranks);
        CHECK.due("still whole", true, house::isWhole);
    }
}
