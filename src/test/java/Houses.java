/** Houses that several tests begin with. */
final class Houses {
    private Houses() {
    }

    /** A house whose game 0 has the board: ten signs of pieces, and 'w' or 'b' for who is to move. */
    static CheckerLog with(String board) {
        CheckerLog house = new CheckerLog();
        setUp(house, board);
        return house;
    }

    /** Opens a game in a house, sets its board up, and returns its number. */
    static int setUp(CheckerLog house, String board) {
        String start = "1111003333w";
        int game = house.open();
        for (int square = 0; square < 10; square++) {
            if (board.charAt(square) != start.charAt(square)) {
                house.place(game, square, board.charAt(square) - '0');
            }
        }
        if (board.charAt(10) == 'b') {
            house.change(game);
        }
        return game;
    }

    static String boardOf(CheckerLog house, int game) {
        StringBuilder board = new StringBuilder();
        for (int square = 0; square < 10; square++) {
            board.append(house.at(game, square));
        }
        return board.append(house.isBlack(game) ? 'b' : 'w').toString();
    }

    static void fillRanks(CheckerLog house, int ranks) {
        for (int rank = 0; rank < ranks; rank++) {
            house.fill();
        }
    }

    /** Writes until there are 60 records, by filling ranks. */
    static void fillLog(CheckerLog house) {
        while (house.records() < 60) {
            house.fill();
        }
    }

    /** The kinds of all records, as a text. */
    static String kindsOf(CheckerLog house) {
        StringBuilder kinds = new StringBuilder();
        for (int record = 0; record < house.records(); record++) {
            kinds.append(house.kindAt(record));
        }
        return kinds.toString();
    }

    /** A record as a text: its kind, game and number. */
    static String recordOf(CheckerLog house, int record) {
        return house.kindAt(record) + " " + house.gameAt(record) + " " + house.numberAt(record);
    }
}
