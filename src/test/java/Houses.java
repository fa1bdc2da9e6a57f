/** Houses that several tests begin with. */
final class Houses {
    private Houses() {
    }

    /** A house whose game 0 has the board: ten signs of pieces, and 'w' or 'b' for who is to move. */
    static CheckerLog with(String board) {
        CheckerLog house = new CheckerLog();
        setUp(house, board);
        return house;
    }

    /** Opens a game in a house, sets its board up, and returns its number. */
    static int setUp(CheckerLog house, String board) {
        String start = "1111003333w";
        int game = house.open();
        for (int square = 0; square < 10; square++) {
            if (board.charAt(square) != start.charAt(square)) {
                house.place(game, square, board.charAt(square) - '0');
            }
        }
        if (board.charAt(10) == 'b') {
            house.change(game);
        }
        return game;
    }

    static String boardOf(CheckerLog house, int game) {
        StringBuilder board = new StringBuilder();
        for (int square = 0; square < 10; square++) {
            board.append(house.at(game, square));
        }
        return board.append(house.isBlack(game) ? 'b' : 'w').toString();
    }

    static void fillRanks(CheckerLog house, int ranks) {
        for (int rank = 0; rank < ranks; rank++) {
            house.fill();
        }
    }

    /** Writes until there are 60 records, by filling ranks. */
    static void fillLog(CheckerLog house) {
        while (house.records() < 60) {
            house.fill();
        }
    }

    /** The kinds of all records, as a text. */
    static String kindsOf(CheckerLog house) {
        StringBuilder kinds = new StringBuilder();
        for (int record = 0; record < house.records(); record++) {
            kinds.append(house.kindAt(record));
        }
        return kinds.toString();
    }

    /** A record as a text: its kind, game and number. */
    static String recordOf(CheckerLog house, int record) {
        return house.kindAt(record) + " " + house.gameAt(record) + " " + house.numberAt(record);
    }

    /** A move as a text of its squares. */
    static String moveOf(CheckerLog house, int game, int move) {
        StringBuilder squares = new StringBuilder();
        for (int index = 0; index < 10; index++) {
            int at = index;
            String square = Check.answerOf(() -> house.step(game, move, at));
            squares.append(square.length() == 1 ? square : "");
        }
        return squares.toString();
    }

    /** All moves of a game, in the order of their numbers. */
    static String movesOf(CheckerLog house, int game) {
        StringBuilder moves = new StringBuilder();
        for (int move = 0; move < house.moves(game); move++) {
            moves.append(move == 0 ? "" : " ").append(moveOf(house, game, move));
        }
        return moves.toString();
    }

    /** All moves on a board. */
    static String movesOn(String board) {
        return movesOf(with(board), 0);
    }

    /** The board that a move leads to. */
    static String boardAfter(String board, int move) {
        CheckerLog house = with(board);
        house.move(0, move);
        return boardOf(house, 0);
    }

    /**
     * What the calls that change nothing answer, then the numbers of the next game and claim, then how
     * many records are kept. It takes up to 340 calls, so that a house of 170 calls can be asked once.
     */
    static String stateOf(CheckerLog house) {
        StringBuilder state = new StringBuilder();
        state.append(figuresOf(house));
        for (int g = 0; g < 5; g++) {
            int game = g;
            state.append("\ngame ").append(g).append(' ').append(Check.answerOf(() -> boardOf(house, game)));
            state.append(' ').append(Check.answerOf(() -> house.isClosed(game)));
            state.append(' ').append(Check.answerOf(() -> house.moves(game)));
            state.append(' ').append(Check.answerOf(() -> house.distance(game)));
        }
        for (int c = 0; c < 6; c++) {
            int claim = c;
            state.append("\nclaim ").append(c).append(' ').append(Check.answerOf(() -> house.gameOf(claim)));
            state.append(' ').append(Check.answerOf(() -> house.verdict(claim)));
        }
        int records = house.records();
        for (int record = 0; record < records; record++) {
            state.append("\n").append(recordOf(house, record)).append(' ').append(house.sumAt(record));
        }
        state.append("\nnext game ").append(Check.answerOf(house::open));
        state.append("\nnext claim ").append(Check.answerOf(() -> house.claim(0)));
        state.append("\nkept after a crash ").append(house.crash(0));
        return state.toString();
    }

    private static String figuresOf(CheckerLog house) {
        return "games " + house.games() + " ranks " + house.ranks() + " whole " + house.isWhole()
                + " claims " + house.claims() + " records " + house.records()
                + " captured " + house.captured() + " share " + Check.answerOf(house::keptShare)
                + " pieces " + Check.answerOf(house::meanPieces) + " sound " + house.isSound();
    }
}
