/** Promises 15 to 23: the table and the claims. */
public final class ClaimsTest {
    private static final String NO_PLACE = "throws.IndexOutOfBoundsException";
    private static final String NOT_TOLD = "throws.NoSuchElementException";
    private static final String NOT_NOW = "throws.UnsupportedOperationException";
    private static final String FULL = "throws.IllegalStateException";

    /** White has no move. */
    private static final String LOST_IN_0 = "0000000010w";
    /** White captures the only man of black. */
    private static final String WON_IN_1 = "0010300000w";
    /** Whatever white does, black captures its only man. */
    private static final String LOST_IN_2 = "0010000300w";
    /** A king each, far from each other: nobody is told to win. */
    private static final String DRAWN = "2000000004w";
    /** White's man becomes a king, black's only move is next to it, and the king captures. */
    private static final String WON_IN_3 = "0000000103w";
    private static final int WHOLE = 8;

    private static final Check CHECK = new Check();

    public static void main(String[] args) {
        promise15Fill();
        promise16Ranks();
        promise17IsWhole();
        promise18Distance();
        promise19Claim();
        promise20Judge();
        promise20JudgeLater();
        promise21Verdict();
        promise22GameOf();
        promise23Claims();
        CHECK.end("ClaimsTest");
    }

    private static void promise15Fill() {
        CheckerLog house = new CheckerLog();
        int[] told = {476, 550, 64, 88, 20, 22, 16, 0, 0, 0};
        for (int rank = 0; rank < told.length; rank++) {
            int place = rank;
            CHECK.due("15: rank " + rank, told[rank], house::fill);
            CHECK.due("15: record", "f -1 " + rank, () -> Houses.recordOf(house, place));
        }
        Houses.fillLog(house);
        CHECK.due("15: full", FULL, house::fill);
        CHECK.due("15: no rank more", 60, house::ranks);
        house.crash(8);
        CHECK.due("15: rank 2 is told once more", 64, house::fill);
    }

    private static void promise16Ranks() {
        CheckerLog house = new CheckerLog();
        CHECK.due("16: none", 0, house::ranks);
        Houses.fillRanks(house, 12);
        CHECK.due("16: also when it is whole", 12, house::ranks);
        house.crash(20);
        CHECK.due("16: after a crash", 5, house::ranks);
        house.compact();
        CHECK.due("16: after compacting", 5, house::ranks);
    }

    private static void promise17IsWhole() {
        CheckerLog house = new CheckerLog();
        Houses.fillRanks(house, WHOLE - 1);
        CHECK.due("17: not yet", false, house::isWhole);
        house.fill();
        CHECK.due("17: a rank told none", true, house::isWhole);
        house.fill();
        CHECK.due("17: it stays so", true, house::isWhole);
        house.crash(4 * (WHOLE - 1));
        CHECK.due("17: after a crash", false, house::isWhole);
        house.fill();
        CHECK.due("17: once more", true, house::isWhole);
    }

    private static void promise18Distance() {
        CheckerLog house = Houses.with(LOST_IN_2);
        CHECK.due("18: no ranks", NOT_TOLD, () -> house.distance(0));
        Houses.fillRanks(house, 2);
        CHECK.due("18: not yet", NOT_TOLD, () -> house.distance(0));
        house.fill();
        CHECK.due("18: lost in 2", 2, () -> house.distance(0));
        house.flush();
        Houses.fillRanks(house, 5);
        CHECK.due("18: it keeps its rank", 2, () -> house.distance(0));
        house.close(0);
        CHECK.due("18: closed", 2, () -> house.distance(0));
        CHECK.due("18: no game", NO_PLACE, () -> house.distance(1));

        CheckerLog won = Houses.with(WON_IN_1);
        Houses.fillRanks(won, 1);
        CHECK.due("18: not yet won", NOT_TOLD, () -> won.distance(0));
        won.fill();
        CHECK.due("18: won in 1", 1, () -> won.distance(0));
        won.move(0, 0);
        CHECK.due("18: lost in 0", 0, () -> won.distance(0));
        CHECK.due("18: who is to move counts", NOT_TOLD, () -> {
            CheckerLog other = Houses.with("0000000010b");
            return other.distance(0);
        });

        CheckerLog big = Houses.with("1111003333w");
        Houses.fillRanks(big, WHOLE);
        CHECK.due("18: too many pieces", NOT_TOLD, () -> big.distance(0));
        CheckerLog three = Houses.with("0000000013b");
        three.place(0, 0, 1);
        Houses.fillRanks(three, 1);
        CHECK.due("18: three pieces", NOT_TOLD, () -> three.distance(0));
        CheckerLog none = Houses.with("0000000000w");
        Houses.fillRanks(none, WHOLE);
        CHECK.due("18: no pieces", NOT_TOLD, () -> none.distance(0));
        CheckerLog drawn = Houses.with(DRAWN);
        Houses.fillRanks(drawn, WHOLE);
        CHECK.due("18: neither won nor lost", NOT_TOLD, () -> drawn.distance(0));
    }

    private static void promise19Claim() {
        CheckerLog house = new CheckerLog();
        house.open();
        house.open();
        CHECK.due("19: first", 0, () -> house.claim(1));
        CHECK.due("19: second", 1, () -> house.claim(0));
        CHECK.due("19: again", 2, () -> house.claim(1));
        CHECK.due("19: record", "c 1 2", () -> Houses.recordOf(house, 4));
        CHECK.due("19: no game", NO_PLACE, () -> house.claim(2));
        house.close(0);
        CHECK.due("19: closed", NOT_NOW, () -> house.claim(0));
        house.crash(16);
        CHECK.due("19: a number that was cut is given again", 2, () -> house.claim(0));
        Houses.fillLog(house);
        CHECK.due("19: full", FULL, () -> house.claim(1));
        CheckerLog closed = new CheckerLog();
        closed.open();
        closed.close(0);
        Houses.fillLog(closed);
        CHECK.due("19: full and closed", NOT_NOW, () -> closed.claim(0));
    }

    private static void promise20Judge() {
        CheckerLog house = new CheckerLog();
        int won = house.claim(Houses.setUp(house, WON_IN_1));
        int lost = house.claim(Houses.setUp(house, LOST_IN_2));
        int drawn = house.claim(Houses.setUp(house, DRAWN));
        int big = house.claim(house.open());
        int records = house.records();
        for (int claim = won; claim <= big; claim++) {
            int c = claim;
            CHECK.due("20: the table is empty", '?', () -> house.judge(c));
        }
        CHECK.due("20: no record is written", records, house::records);
        Houses.fillRanks(house, 2);
        CHECK.due("20: granted", 'g', () -> house.judge(won));
        CHECK.due("20: record", "j 0 1", () -> Houses.recordOf(house, house.records() - 1));
        CHECK.due("20: judged", NOT_NOW, () -> house.judge(won));
        CHECK.due("20: rank 2 is not there", '?', () -> house.judge(lost));
        house.fill();
        CHECK.due("20: refused", 'r', () -> house.judge(lost));
        CHECK.due("20: record", "j 1 2", () -> Houses.recordOf(house, house.records() - 1));
        CHECK.due("20: no claim", NO_PLACE, () -> house.judge(4));
        CHECK.due("20: claim -1", NO_PLACE, () -> house.judge(-1));
        CHECK.due("20: sound", true, house::isSound);
    }

    private static void promise20JudgeLater() {
        CheckerLog house = new CheckerLog();
        int game = Houses.setUp(house, DRAWN);
        int drawn = house.claim(game);
        int big = house.claim(house.open());
        int none = house.claim(Houses.setUp(house, "0000000000w"));
        Houses.fillRanks(house, WHOLE - 1);
        CHECK.due("20: not whole", '?', () -> house.judge(drawn));
        house.fill();
        house.close(game);
        CHECK.due("20: more pieces", '?', () -> house.judge(big));
        CHECK.due("20: no pieces", '?', () -> house.judge(none));
        CHECK.due("20: whole, and in a closed game", 'r', () -> house.judge(drawn));

        CheckerLog three = Houses.with(WON_IN_3);
        three.claim(0);
        Houses.fillRanks(three, 3);
        CHECK.due("20: rank 3 is not there", '?', () -> three.judge(0));
        three.fill();
        CHECK.due("20: won in 3", 'g', () -> three.judge(0));

        CheckerLog moved = Houses.with(WON_IN_1);
        moved.claim(0);
        moved.move(0, 0);
        moved.claim(0);
        Houses.fillRanks(moved, 2);
        CHECK.due("20: the board as it was claimed", 'g', () -> moved.judge(0));
        CHECK.due("20: the board at a later claim", 'r', () -> moved.judge(1));

        CheckerLog full = new CheckerLog();
        full.claim(Houses.setUp(full, WON_IN_1));
        full.claim(full.open());
        Houses.fillLog(full);
        CHECK.due("20: full, and it can be judged", FULL, () -> full.judge(0));
        CHECK.due("20: full, and it can't", '?', () -> full.judge(1));
        CHECK.due("20: it is still open", '?', () -> full.verdict(0));
    }

    private static void promise21Verdict() {
        CheckerLog house = new CheckerLog();
        house.claim(Houses.setUp(house, WON_IN_1));
        house.claim(Houses.setUp(house, LOST_IN_0));
        Houses.fillRanks(house, 2);
        CHECK.due("21: open", '?', () -> house.verdict(0));
        house.flush();
        house.judge(0);
        house.judge(1);
        CHECK.due("21: granted", 'g', () -> house.verdict(0));
        CHECK.due("21: refused", 'r', () -> house.verdict(1));
        CHECK.due("21: no claim", NO_PLACE, () -> house.verdict(2));
        CHECK.due("21: claim -1", NO_PLACE, () -> house.verdict(-1));
        house.crash(4);
        CHECK.due("21: a judgment that is left", 'g', () -> house.verdict(0));
        CHECK.due("21: a judgment that was cut", '?', () -> house.verdict(1));
    }

    private static void promise22GameOf() {
        CheckerLog house = new CheckerLog();
        house.open();
        house.open();
        house.claim(1);
        house.claim(0);
        CHECK.due("22: first", 1, () -> house.gameOf(0));
        CHECK.due("22: second", 0, () -> house.gameOf(1));
        CHECK.due("22: no claim", NO_PLACE, () -> house.gameOf(2));
        CHECK.due("22: claim -1", NO_PLACE, () -> house.gameOf(-1));
        house.close(0);
        CHECK.due("22: closed", 0, () -> house.gameOf(1));
    }

    private static void promise23Claims() {
        CheckerLog house = new CheckerLog();
        house.claim(Houses.setUp(house, WON_IN_1));
        house.claim(Houses.setUp(house, LOST_IN_0));
        house.claim(1);
        CHECK.due("23: open", 3, house::claims);
        Houses.fillRanks(house, 2);
        house.judge(0);
        CHECK.due("23: without a granted one", 2, house::claims);
        house.judge(2);
        CHECK.due("23: without a refused one", 1, house::claims);
        house.close(1);
        CHECK.due("23: in a closed game", 1, house::claims);
        house.crash(0);
        CHECK.due("23: after a crash", 0, house::claims);
    }
}
