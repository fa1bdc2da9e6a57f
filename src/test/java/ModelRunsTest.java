/** Makes long runs of calls, the same ones each time, and compares every answer with the model's. */
public final class ModelRunsTest {
    private static final int RUNS = 180;
    private static final int CALLS = 512;

    private final Check check = new Check();
    private long seed;
    private CheckerLog house;
    private Model model;
    private int run;

    private int next(int bound) {
        seed = seed * 6364136223846793005L + 1442695040888963407L;
        return (int) ((seed >>> 33) % bound);
    }

    /** Mostly a number from 0 to below the bound, now and then one that is out of range. */
    private int about(int bound) {
        int luck = next(40);
        if (luck == 0) {
            return -1;
        }
        if (luck == 1) {
            return bound;
        }
        if (luck == 2) {
            return next(2) == 0 ? Integer.MIN_VALUE : Integer.MAX_VALUE;
        }
        return bound <= 0 ? 0 : next(bound);
    }

    private void same(String label, Check.Call ours, Check.Call models) {
        check.due("run " + run + ": " + label, Check.answerOf(models), ours);
    }

    public static void main(String[] args) {
        ModelRunsTest test = new ModelRunsTest();
        for (int run = 0; run < RUNS; run++) {
            test.runOnce(run);
        }
        test.check.end("ModelRunsTest");
    }

    private void runOnce(int number) {
        run = number;
        seed = number * 7919L + 17;
        house = new CheckerLog();
        model = new Model();
        int spoilEvery = 10 + next(200);
        for (int call = 0; call < CALLS; call++) {
            if (call % 32 == 31) {
                observeAll();
            } else if (run % 3 == 0 && next(40) == 0) {
                call += setUpEndgame();
            } else if (next(12) == 0) {
                callLog(spoilEvery);
            } else if (next(3) == 0) {
                callClaims();
            } else {
                callGames();
            }
        }
        observeAll();
    }

    /** Opens a game with one to three pieces left, claims in it, and returns how many calls it took. */
    private int setUpEndgame() {
        same("open()", () -> house.open(), () -> model.open());
        int g = Math.max(0, model.games() - 1);
        int calls = 1;
        int left = 1 + next(3);
        for (int square = 0; square < 10; square++) {
            int s = square;
            int p = next(10 - square) < left ? 1 + next(4) : 0;
            left -= p > 0 ? 1 : 0;
            if (p > 0 || square < 4 || square > 5) {
                same("place(" + g + ", " + s + ", " + p + ")", () -> house.place(g, s, p), () -> model.place(g, s, p));
                calls++;
            }
        }
        same("claim(" + g + ")", () -> house.claim(g), () -> model.claim(g));
        return calls + 1;
    }

    private void callGames() {
        int g = about(5);
        int s = about(10);
        int p = next(3) == 0 ? about(5) : 0;
        int count = model.games() > 0 && g >= 0 && g < 5 && Check.answerOf(() -> model.moves(g)).length() < 3
                ? model.moves(g) : 3;
        int m = about(Math.max(1, count));
        int i = about(3);
        switch (next(run % 3 == 0 ? 8 : 13)) {
            case 0 -> same("open()", () -> house.open(), () -> model.open());
            case 1 -> same("change(" + g + ")", () -> house.change(g), () -> model.change(g));
            case 2, 3, 4 -> same("move(" + g + ", " + m + ")", () -> house.move(g, m), () -> model.move(g, m));
            case 5 -> same("step(" + g + ", " + m + ", " + i + ")", () -> house.step(g, m, i), () -> model.step(g, m, i));
            case 6 -> same("captures(" + g + ", " + m + ")", () -> house.captures(g, m), () -> model.captures(g, m));
            case 7 -> {
                if (next(3) == 0) {
                    same("close(" + g + ")", () -> house.close(g), () -> model.close(g));
                }
            }
            default -> same("place(" + g + ", " + s + ", " + p + ")",
                    () -> house.place(g, s, p), () -> model.place(g, s, p));
        }
    }

    private void callClaims() {
        int g = about(5);
        int c = about(8);
        switch (next(9)) {
            case 0, 1 -> same("fill()", () -> house.fill(), () -> model.fill());
            case 2 -> same("distance(" + g + ")", () -> house.distance(g), () -> model.distance(g));
            case 3 -> same("claim(" + g + ")", () -> house.claim(g), () -> model.claim(g));
            default -> same("judge(" + c + ")", () -> house.judge(c), () -> model.judge(c));
        }
    }

    private void callLog(int spoilEvery) {
        int cells = next(2) == 0 ? about(30) : about(241);
        int r = about(Math.max(1, model.records()));
        switch (next(6)) {
            case 0, 1 -> same("crash(" + cells + ")", () -> house.crash(cells), () -> model.crash(cells));
            case 2 -> {
                if (next(spoilEvery) < 10) {
                    same("spoil(" + r + ")", () -> house.spoil(r), () -> model.spoil(r));
                }
            }
            case 3 -> same("flush()", () -> house.flush(), () -> model.flush());
            default -> same("compact()", () -> house.compact(), () -> model.compact());
        }
    }

    private void observeAll() {
        observeGames();
        observeTable();
        observeLog();
        same("captured()", () -> house.captured(), () -> model.captured());
        same("keptShare()", () -> house.keptShare(), () -> model.keptShare());
        same("meanPieces()", () -> house.meanPieces(), () -> model.meanPieces());
        same("isSound()", () -> house.isSound(), () -> model.isSound());
    }

    private void observeGames() {
        same("games()", () -> house.games(), () -> model.games());
        for (int i = -1; i <= 5; i++) {
            int g = i;
            same("isBlack(" + g + ")", () -> house.isBlack(g), () -> model.isBlack(g));
            same("isClosed(" + g + ")", () -> house.isClosed(g), () -> model.isClosed(g));
            same("moves(" + g + ")", () -> house.moves(g), () -> model.moves(g));
            for (int j = -1; j <= 10; j++) {
                int s = j;
                same("at(" + g + ", " + s + ")", () -> house.at(g, s), () -> model.at(g, s));
                same("atAnew(" + g + ", " + s + ")", () -> house.atAnew(g, s), () -> model.atAnew(g, s));
                same("captures(" + g + ", " + s + ")", () -> house.captures(g, s), () -> model.captures(g, s));
                for (int k = -1; k <= 4; k++) {
                    int n = k;
                    same("step(" + g + ", " + s + ", " + n + ")",
                            () -> house.step(g, s, n), () -> model.step(g, s, n));
                }
            }
        }
    }

    private void observeTable() {
        same("ranks()", () -> house.ranks(), () -> model.ranks());
        same("isWhole()", () -> house.isWhole(), () -> model.isWhole());
        same("claims()", () -> house.claims(), () -> model.claims());
        for (int i = -1; i <= 30; i++) {
            int c = i;
            same("verdict(" + c + ")", () -> house.verdict(c), () -> model.verdict(c));
            same("gameOf(" + c + ")", () -> house.gameOf(c), () -> model.gameOf(c));
            same("distance(" + c + ")", () -> house.distance(c), () -> model.distance(c));
        }
    }

    private void observeLog() {
        same("records()", () -> house.records(), () -> model.records());
        for (int i = -1; i <= 60; i++) {
            int r = i;
            same("kindAt(" + r + ")", () -> house.kindAt(r), () -> model.kindAt(r));
            same("numberAt(" + r + ")", () -> house.numberAt(r), () -> model.numberAt(r));
            same("gameAt(" + r + ")", () -> house.gameAt(r), () -> model.gameAt(r));
            same("sumAt(" + r + ")", () -> house.sumAt(r), () -> model.sumAt(r));
            same("segmentSum(" + r + ")", () -> house.segmentSum(r), () -> model.segmentSum(r));
        }
    }
}
