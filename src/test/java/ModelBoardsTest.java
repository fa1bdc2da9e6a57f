import java.util.List;
import java.util.Map;
import java.util.Random;

/** Sets up all boards with 1 or 2 pieces, and many with more, and compares moves and ranks with the model's. */
public final class ModelBoardsTest {
    private static final int BIG_BOARDS = 4000;
    private static final int WHOLE = 8;

    private static final Check CHECK = new Check();

    public static void main(String[] args) {
        Map<String, Boolean> table = Model.tableOf(WHOLE);
        for (int a = 0; a < 10; a++) {
            for (int p = 1; p <= 4; p++) {
                both(Model.with("0000000000w", a, p));
                for (int b = a + 1; b < 10; b++) {
                    for (int q = 1; q <= 4; q++) {
                        both(Model.with(Model.with("0000000000w", a, p), b, q));
                    }
                }
            }
        }
        CHECK.due("boards told", 476 + 550 + 64 + 88 + 20 + 22 + 16, table::size);
        // A fixed seed: the boards are the same ones each time.
        Random random = new Random(7);
        for (int i = 0; i < BIG_BOARDS; i++) {
            StringBuilder board = new StringBuilder();
            int empty = 1 + random.nextInt(9);
            for (int s = 0; s < 10; s++) {
                board.append(random.nextInt(10) < empty ? 0 : 1 + random.nextInt(4));
            }
            compareMoves(board.append(random.nextBoolean() ? 'w' : 'b').toString());
        }
        CHECK.end("ModelBoardsTest");
    }

    private static void both(String board) {
        for (String b : List.of(board, Model.turned(board))) {
            compareMoves(b);
            compareRanks(b);
        }
    }

    private static void compareMoves(String board) {
        CheckerLog house = Houses.with(board);
        List<List<Integer>> moves = Model.movesOf(board);
        CHECK.due(board + ": moves", moves.size(), () -> house.moves(0));
        for (int m = 0; m < moves.size(); m++) {
            int move = m;
            List<Integer> squares = moves.get(m);
            for (int i = 0; i < squares.size(); i++) {
                int index = i;
                CHECK.due(board + ": step " + m + " " + i, squares.get(i), () -> house.step(0, move, index));
            }
            CHECK.due(board + ": a step more", "throws.IndexOutOfBoundsException",
                    () -> house.step(0, move, squares.size()));
            CHECK.due(board + ": captures " + m, Model.isCapture(squares) ? squares.size() - 1 : 0,
                    () -> house.captures(0, move));
            CheckerLog moved = Houses.with(board);
            String after = Model.after(board, squares);
            CHECK.due(board + ": move " + m, Model.movesOf(after).size(), () -> moved.move(0, move));
            CHECK.due(board + ": after move " + m, after, () -> Houses.boardOf(moved, 0));
            CHECK.due(board + ": captured by move " + m, Model.pieces(board) - Model.pieces(after),
                    () -> moved.captured());
        }
    }

    private static void compareRanks(String board) {
        CheckerLog house = Houses.with(board);
        int claim = house.claim(0);
        Object told = "throws.NoSuchElementException";
        for (int rank = 0; rank <= WHOLE; rank++) {
            CHECK.due(board + ": distance with " + rank + " ranks", told, () -> house.distance(0));
            house.fill();
            if (Model.tableOf(rank + 1).containsKey(board) && !Model.tableOf(rank).containsKey(board)) {
                told = rank;
            }
        }
        CHECK.due(board + ": judge", Model.weigh(board, WHOLE + 1), () -> house.judge(claim));
    }
}
