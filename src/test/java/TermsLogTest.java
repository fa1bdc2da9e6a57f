/** What the document's 'Terms' say of the log, of claims, crashes and compacting, a test for each sentence. */
public final class TermsLogTest {
    private static final String NO_PLACE = "throws.IndexOutOfBoundsException";
    private static final String NOT_NOW = "throws.UnsupportedOperationException";
    private static final String FULL = "throws.IllegalStateException";

    private static final String LOST_IN_0 = "0000000003w";
    private static final String WON_IN_1 = "0010300000w";
    private static final String LOST_IN_2 = "0010000300w";
    private static final String NOT_TOLD = "0000104000w";
    private static final int WHOLE = 8;

    private static final Check CHECK = new Check();

    public static void main(String[] args) {
        aRecordOfEachKind();
        aRecordIsWrittenAlone();
        sumsOfTheFirstRecords();
        sumsThatWrap();
        aSegmentWithAsManyAsAreLeft();
        sixtyRecords();
        theBoardAsItWasClaimed();
        whichJudgmentsAreGiven();
        claimNumbers();
        claimNumbersPastSixty();
        flushingKeepsAll();
        cellsThatMakeNoWholeRecord();
        cellsForAllRecords();
        theFirstRecordThatDoesNotFit();
        allIsDoneAgainAfterACrash();
        noJudgmentWithoutItsRank();
        judgmentsWithTheirRanks();
        spoilingChangesNothingElse();
        spoiltWhereItIsKept();
        whatCompactingDrops();
        whatCompactingLeaves();
        sumsAfterCompacting();
        numbersThatAreGivenAgain();
        fiveGamesWereOpened();
        allIsKeptAfterCompacting();
        aSpoiltLogIsNotCompacted();
        CHECK.end("TermsLogTest");
    }

    // ---- Log

    /** "What is done is written as a record of a kind, a game, a number": each kind, with its numbers. */
    private static void aRecordOfEachKind() {
        CheckerLog house = new CheckerLog();
        house.open();
        house.open();
        house.place(1, 0, 0);
        house.place(1, 9, 4);
        house.place(0, 0, 4);
        house.change(1);
        house.move(1, 2);
        house.claim(0);
        house.claim(1);
        house.fill();
        house.fill();
        house.close(1);
        String[] due = {
            "o 0 0", "o 1 0", "p 1 0", "p 1 49", "p 0 4", "t 1 0", "m 1 2", "c 0 0", "c 1 1", "f -1 0",
            "f -1 1", "x 1 0",
        };
        for (int record = 0; record < due.length; record++) {
            int r = record;
            CHECK.due("record " + r, due[r], () -> Houses.recordOf(house, r));
        }
        CHECK.due("no record more", due.length, house::records);

        CheckerLog judged = new CheckerLog();
        judged.claim(Houses.setUp(judged, LOST_IN_0));
        judged.claim(Houses.setUp(judged, "1000000000w"));
        Houses.fillRanks(judged, 2);
        judged.judge(1);
        judged.judge(0);
        int last = judged.records() - 1;
        CHECK.due("2 times the claim, plus 1", "j 1 3", () -> Houses.recordOf(judged, last - 1));
        CHECK.due("2 times the claim", "j 0 0", () -> Houses.recordOf(judged, last));
    }

    /** Each call that writes adds one record behind the others, which stay as they are. */
    private static void aRecordIsWrittenAlone() {
        CheckerLog house = new CheckerLog();
        house.open();
        int sum = house.sumAt(0);
        house.place(0, 4, 0);
        CHECK.due("also if nothing changes on the board", 2, house::records);
        CHECK.due("its number", 20, () -> house.numberAt(1));
        house.change(0);
        house.change(0);
        CHECK.due("changed and changed back", "optt", () -> Houses.kindsOf(house));
        CHECK.due("the first one's sum stays", sum, () -> house.sumAt(0));
    }

    private static int sum(int ahead, char kind, int game, int number) {
        long inner = 31L * ahead + kind;
        return (int) (31L * (int) (31L * (int) inner + game) + number);
    }

    /** "31 times (31 times (31 times the sum of the one ahead, 7 for the first one, plus the code of its kind) ..." */
    private static void sumsOfTheFirstRecords() {
        CheckerLog opened = new CheckerLog();
        opened.open();
        CHECK.due("'o' first", 315208, () -> opened.sumAt(0));
        CheckerLog filled = new CheckerLog();
        filled.fill();
        CHECK.due("'f' first, with the game -1", 306528, () -> filled.sumAt(0));
        opened.move(0, 0);
        CHECK.due("'m' second", 800531685, () -> opened.sumAt(1));
    }

    /** "In ints that wrap." */
    private static void sumsThatWrap() {
        CheckerLog house = new CheckerLog();
        int due = 7;
        int negative = 0;
        for (int record = 0; record < 60; record++) {
            int r = record;
            house.fill();
            due = sum(due, 'f', -1, record);
            CHECK.due("the sum of record " + r, due, () -> house.sumAt(r));
            negative += house.sumAt(r) < 0 ? 1 : 0;
        }
        int below = negative;
        CHECK.due("some of them are below 0, some are not", true, () -> below > 10 && below < 50);
        CHECK.due("and they all fit", 60, () -> house.crash(240));
    }

    /** "A segment is 4 records, the last one with as many as are left." */
    private static void aSegmentWithAsManyAsAreLeft() {
        CheckerLog house = new CheckerLog();
        CHECK.due("no segment of no records", NO_PLACE, () -> house.segmentSum(0));
        for (int records = 1; records <= 60; records++) {
            house.fill();
            int last = (records - 1) / 4;
            CHECK.due("the last of " + records, house.sumAt(records - 1), () -> house.segmentSum(last));
            CHECK.due("no segment behind it", NO_PLACE, () -> house.segmentSum(last + 1));
            if (last > 0) {
                CHECK.due("the one ahead is whole", house.sumAt(4 * last - 1), () -> house.segmentSum(last - 1));
            }
        }
    }

    /** "At most 60 records can be there": the 60th is written, and none behind it. */
    private static void sixtyRecords() {
        CheckerLog house = new CheckerLog();
        house.claim(Houses.setUp(house, LOST_IN_0));
        house.fill();
        while (house.records() < 59) {
            house.fill();
        }
        CHECK.due("the 60th", 'r', () -> house.judge(0));
        CHECK.due("60 records", 60, house::records);
        CHECK.due("open", FULL, house::open);
        CHECK.due("claim", FULL, () -> house.claim(0));
        CHECK.due("close", FULL, () -> house.close(0));
        CHECK.due("fill", FULL, house::fill);
        CHECK.due("still 60", 60, house::records);
        house.crash(236);
        CHECK.due("one was cut", 59, house::records);
        CHECK.due("so there is room for one", 0, () -> house.close(0));
        CHECK.due("and for no more", FULL, house::open);
        CHECK.due("the claim's judgment was cut", '?', () -> house.verdict(0));
        CHECK.due("a full log can be compacted", 0, house::compact);
    }

    // ---- Claims

    /** "A judgment looks at the board as it was when it was claimed." */
    private static void theBoardAsItWasClaimed() {
        CheckerLog house = Houses.with(WON_IN_1);
        house.claim(0);
        house.move(0, 0);
        Houses.fillRanks(house, 2);
        CHECK.due("the game is lost by now", 0, () -> house.distance(0));
        CHECK.due("but it was won", 'g', () -> house.judge(0));

        CheckerLog big = Houses.with("1010300000w");
        big.claim(0);
        big.move(0, 0);
        Houses.fillRanks(big, WHOLE);
        CHECK.due("of 2 pieces by now", 0, () -> big.distance(0));
        CHECK.due("but of 3 when it was claimed", '?', () -> big.judge(0));

        CheckerLog closed = Houses.with(WON_IN_1);
        closed.claim(0);
        closed.close(0);
        Houses.fillRanks(closed, 2);
        CHECK.due("in a closed game", 'g', () -> closed.judge(0));
    }

    private static String judged(String board, int ranks) {
        CheckerLog house = Houses.with(board);
        house.claim(0);
        Houses.fillRanks(house, ranks);
        return Check.answerOf(() -> house.judge(0));
    }

    /** "If it is told in the table as won, the claim is granted; if ...; otherwise it stays open." */
    private static void whichJudgmentsAreGiven() {
        CHECK.due("won, ahead of its rank", "?", () -> judged(WON_IN_1, 1));
        CHECK.due("won, by its rank", "g", () -> judged(WON_IN_1, 2));
        CHECK.due("won, when the table is whole", "g", () -> judged(WON_IN_1, WHOLE));
        CHECK.due("won in 5, ahead of its rank", "?", () -> judged("0100000300w", 5));
        CHECK.due("won in 5", "g", () -> judged("0100000300w", 6));
        CHECK.due("lost, ahead of all ranks", "?", () -> judged(LOST_IN_0, 0));
        CHECK.due("lost, by its rank", "r", () -> judged(LOST_IN_0, 1));
        CHECK.due("lost in 2, ahead of its rank", "?", () -> judged(LOST_IN_2, 2));
        CHECK.due("lost in 2", "r", () -> judged(LOST_IN_2, 3));
        CHECK.due("not told, not whole", "?", () -> judged(NOT_TOLD, WHOLE - 1));
        CHECK.due("not told, whole", "r", () -> judged(NOT_TOLD, WHOLE));
        CHECK.due("not told, a rank later", "r", () -> judged(NOT_TOLD, WHOLE + 1));
        CHECK.due("3 pieces, whole", "?", () -> judged("1110000000w", WHOLE));
        CHECK.due("3 pieces and no move, whole", "?", () -> judged("1110000000b", WHOLE));
        CHECK.due("no pieces, whole", "?", () -> judged("0000000000w", WHOLE));
        CHECK.due("1 piece, who has none", "r", () -> judged("1000000000b", 1));
    }

    /** "Claims are numbered from 0, in the order of their records, and keep their numbers." */
    private static void claimNumbers() {
        CheckerLog house = new CheckerLog();
        house.open();
        house.claim(Houses.setUp(house, LOST_IN_0));
        house.claim(0);
        house.claim(1);
        house.fill();
        house.judge(0);
        house.judge(2);
        house.close(1);
        house.compact();
        CHECK.due("the ones ahead of it and behind it are gone", 0, () -> house.gameOf(1));
        CHECK.due("0 is gone", NO_PLACE, () -> house.gameOf(0));
        CHECK.due("2 is gone", NO_PLACE, () -> house.gameOf(2));
        CHECK.due("its record", "c 0 1", () -> Houses.recordOf(house, 1));
        CHECK.due("the next one", 3, () -> house.claim(0));
        CHECK.due("both are open", 2, house::claims);
    }

    /** Numbers of dropped claims are left out, so that numbers go on beyond the 60 records. */
    private static void claimNumbersPastSixty() {
        CheckerLog house = new CheckerLog();
        house.fill();
        for (int game = 0; game < 5; game++) {
            int g = Houses.setUp(house, LOST_IN_0);
            for (int i = 0; i < 24; i++) {
                int number = 24 * game + i;
                CHECK.due("a claim in game " + g, number, () -> house.claim(g));
                CHECK.due("its judgment", 'r', () -> house.judge(number));
            }
            house.close(g);
            CHECK.due("all of the game goes", 1 + 7 + 48 + 1, house::compact);
            CHECK.due("the rank stays", 1, house::records);
        }
        CHECK.due("the last claim is gone", NO_PLACE, () -> house.verdict(119));
    }

    // ---- Crashes

    /** "Flushing keeps all records that are there." */
    private static void flushingKeepsAll() {
        CheckerLog house = new CheckerLog();
        Houses.fillRanks(house, 3);
        CHECK.due("three", 3, house::flush);
        house.fill();
        CHECK.due("four", 4, house::flush);
        CHECK.due("nothing was written since", 4, house::flush);
        CHECK.due("none is lost", 4, () -> house.crash(0));
        Houses.fillLog(house);
        CHECK.due("sixty", 60, house::flush);
        CHECK.due("sixty are back", 60, () -> house.crash(0));
    }

    /** "Of what was written since, as many whole records as there are 4 cells told." */
    private static void cellsThatMakeNoWholeRecord() {
        int[] cells = {0, 1, 3, 4, 5, 7, 8, 11, 12, 19, 20, 21, 240};
        int[] left = {0, 0, 0, 1, 1, 1, 2, 2, 3, 4, 5, 5, 5};
        for (int i = 0; i < cells.length; i++) {
            int c = cells[i];
            CheckerLog house = new CheckerLog();
            Houses.fillRanks(house, 5);
            CHECK.due(c + " cells of 5 records", left[i], () -> house.crash(c));
            CheckerLog kept = new CheckerLog();
            Houses.fillRanks(kept, 3);
            kept.flush();
            Houses.fillRanks(kept, 5);
            CHECK.due(c + " cells of 5 records behind 3 that are kept", 3 + left[i], () -> kept.crash(c));
        }
    }

    private static void cellsForAllRecords() {
        CheckerLog all = new CheckerLog();
        Houses.fillLog(all);
        CHECK.due("all 60", 60, () -> all.crash(240));
        CheckerLog torn = new CheckerLog();
        Houses.fillLog(torn);
        CHECK.due("the last one is torn", 59, () -> torn.crash(239));
    }

    /** "From the first record on whose sum does not fit, all are cut; what is there then is kept." */
    private static void theFirstRecordThatDoesNotFit() {
        for (int spoilt = 0; spoilt < 6; spoilt++) {
            CheckerLog house = new CheckerLog();
            Houses.fillRanks(house, 3);
            house.flush();
            Houses.fillRanks(house, 3);
            house.spoil(spoilt);
            int s = spoilt;
            CHECK.due("all cells, spoilt at " + s, s, () -> house.crash(240));
            CHECK.due("what is there is kept, " + s, s, () -> house.crash(0));
            CHECK.due("ranks, " + s, s, house::ranks);
        }
        CheckerLog two = new CheckerLog();
        Houses.fillRanks(two, 6);
        two.spoil(4);
        two.spoil(2);
        CHECK.due("from the first of two on", 2, () -> two.crash(240));
        CheckerLog torn = new CheckerLog();
        Houses.fillRanks(torn, 6);
        torn.spoil(5);
        CHECK.due("the spoilt one is cut by the cells", 4, () -> torn.crash(16));
        CheckerLog behind = new CheckerLog();
        behind.fill();
        behind.spoil(0);
        behind.fill();
        CHECK.due("one that fits behind it is cut, too", 0, () -> behind.crash(240));
        CHECK.due("a new chain", 306528, () -> {
            behind.fill();
            return behind.sumAt(0);
        });
    }

    /** "Then everything, the table too, is done again from the log." */
    private static void allIsDoneAgainAfterACrash() {
        CheckerLog house = new CheckerLog();
        house.claim(Houses.setUp(house, WON_IN_1));
        Houses.fillRanks(house, 2);
        house.open();
        house.flush();
        String before = Houses.boardOf(house, 0);
        house.judge(0);
        house.move(0, 0);
        house.change(1);
        house.claim(1);
        house.close(1);
        house.open();
        Houses.fillRanks(house, WHOLE - 2);
        CHECK.due("whole ahead of it", true, house::isWhole);
        house.crash(0);
        CHECK.due("the board", before, () -> Houses.boardOf(house, 0));
        CHECK.due("the board anew", 3, () -> house.atAnew(0, 4));
        CHECK.due("who is to move", false, () -> house.isBlack(1));
        CHECK.due("not closed", false, () -> house.isClosed(1));
        CHECK.due("games", 2, house::games);
        CHECK.due("the verdict", '?', () -> house.verdict(0));
        CHECK.due("the claim that was cut", NO_PLACE, () -> house.verdict(1));
        CHECK.due("open claims", 1, house::claims);
        CHECK.due("captured", 0L, house::captured);
        CHECK.due("ranks", 2, house::ranks);
        CHECK.due("not whole", false, house::isWhole);
        CHECK.due("rank 2 tells them again", 64, house::fill);
        CHECK.due("nothing was moved or claimed in the game", 1, () -> house.place(1, 0, 0));
        CHECK.due("but in the other", NOT_NOW, () -> house.place(0, 0, 0));
    }

    /** "No claim is judged by a rank that the log ahead of it does not have." */
    private static void noJudgmentWithoutItsRank() {
        CheckerLog house = new CheckerLog();
        house.claim(Houses.setUp(house, WON_IN_1));
        house.fill();
        int rank1 = house.records();
        house.fill();
        house.judge(0);
        house.flush();
        house.spoil(rank1);
        CHECK.due("judged till the crash", 'g', () -> house.verdict(0));
        CHECK.due("the rank and the judgment are cut", rank1, () -> house.crash(240));
        CHECK.due("it is open again", '?', () -> house.verdict(0));
        CHECK.due("it can't be judged by rank 0", '?', () -> house.judge(0));
        CHECK.due("rank 1 is filled again", 550, house::fill);
        CHECK.due("and judges it again", 'g', () -> house.judge(0));
    }

    /** Ranks stay where they are when the games around them are dropped. */
    private static void judgmentsWithTheirRanks() {
        CheckerLog house = new CheckerLog();
        house.open();
        house.claim(Houses.setUp(house, WON_IN_1));
        house.fill();
        house.claim(Houses.setUp(house, LOST_IN_0));
        house.fill();
        house.judge(0);
        house.judge(1);
        house.close(0);
        house.close(2);
        CHECK.due("two games", 2 + 1 + 7 + 1 + 1 + 1, house::compact);
        CHECK.due("its ranks, then the judgment", "cffj", () -> Houses.kindsOf(house).replaceAll("[opt]", ""));
        CHECK.due("sound", true, house::isSound);
        int records = house.records();
        CHECK.due("all are back", records, () -> house.crash(0));
        CHECK.due("judged", 'g', () -> house.verdict(0));
        CHECK.due("ranks", 2, house::ranks);
        CHECK.due("sound again", true, house::isSound);
    }

    /** "Spoiling a record, kept or not, adds 1 to its number ... and nothing else, till a crash." */
    private static void spoilingChangesNothingElse() {
        for (int spoilt = 0; spoilt < 14; spoilt++) {
            String before = Houses.stateOf(spoiltHouse(-1)).replaceAll("(?s)kept after.*", "");
            String after = Houses.stateOf(spoiltHouse(spoilt)).replaceAll("(?s)kept after.*", "");
            CheckerLog house = spoiltHouse(-1);
            String record = Houses.recordOf(house, spoilt);
            int number = house.numberAt(spoilt);
            String with1 = record.substring(0, record.lastIndexOf(' ')) + " " + (number + 1);
            String sum = " " + house.sumAt(spoilt);
            String due = before.replace("\n" + record + sum, "\n" + with1 + sum);
            CHECK.due("its number alone, " + record, due, () -> after);
        }
    }

    private static CheckerLog spoiltHouse(int record) {
        CheckerLog house = new CheckerLog();
        house.open();
        house.open();
        house.place(0, 4, 3);
        house.change(0);
        house.flush();
        house.change(0);
        house.move(0, 0);
        house.claim(0);
        house.claim(1);
        house.fill();
        house.fill();
        house.open();
        house.close(1);
        house.move(2, 1);
        house.claim(2);
        if (record >= 0) {
            house.spoil(record);
        }
        return house;
    }

    /** "Where it is kept, too." */
    private static void spoiltWhereItIsKept() {
        CheckerLog house = new CheckerLog();
        Houses.fillRanks(house, 3);
        house.flush();
        CHECK.due("it fitted", true, () -> house.spoil(1));
        CHECK.due("the kept one is spoilt", 1, () -> house.crash(0));
        house.fill();
        CHECK.due("one that is not kept", true, () -> house.spoil(1));
        CHECK.due("it does not fit any more", false, () -> house.spoil(1));
        house.flush();
        CHECK.due("it is kept as it is spoilt", 1, () -> house.crash(0));
    }

    // ---- Compacting

    /** "Compacting drops the records of each closed game, if it has no open claim, with its claims." */
    private static void whatCompactingDrops() {
        CheckerLog house = new CheckerLog();
        house.open();
        int judgedGame = Houses.setUp(house, LOST_IN_0);
        house.claim(judgedGame);
        house.fill();
        house.judge(0);
        int openClaimGame = house.open();
        house.claim(openClaimGame);
        int movedGame = house.open();
        house.move(movedGame, 0);
        house.close(judgedGame);
        house.close(openClaimGame);
        house.close(movedGame);
        int dropped = 1 + 7 + 1 + 1 + 1 + 3;
        CHECK.due("the records of both", dropped, house::compact);
        CHECK.due("in their order", "ofocx", () -> Houses.kindsOf(house));
        CHECK.due("the open game is there", false, () -> house.isClosed(0));
        CHECK.due("the one with a judged claim is not", NO_PLACE, () -> house.isClosed(1));
        CHECK.due("the one with an open claim is", true, () -> house.isClosed(2));
        CHECK.due("the one without claims is not", NO_PLACE, () -> house.isClosed(3));
        CHECK.due("the judged claim is not", NO_PLACE, () -> house.gameOf(0));
        CHECK.due("the open claim is", 2, () -> house.gameOf(1));
        CHECK.due("nothing more to drop", 0, house::compact);
    }

    private static void whatCompactingLeaves() {
        CheckerLog empty = new CheckerLog();
        CHECK.due("an empty log", 0, empty::compact);
        CheckerLog open = Houses.with(LOST_IN_0);
        open.claim(0);
        open.fill();
        open.judge(0);
        int records = open.records();
        CHECK.due("an open game with a judged claim", 0, open::compact);
        CHECK.due("all its records", records, open::records);
        CheckerLog forever = new CheckerLog();
        forever.claim(forever.open());
        forever.close(0);
        Houses.fillRanks(forever, WHOLE);
        CHECK.due("a claim that no table covers", '?', () -> forever.judge(0));
        CHECK.due("is not forgotten", 0, forever::compact);
        CHECK.due("also after a crash", 3 + WHOLE, () -> forever.crash(0));
        CHECK.due("it is open", 1, forever::claims);
    }

    /** "All else stays in its order, with new sums." */
    private static void sumsAfterCompacting() {
        CheckerLog house = new CheckerLog();
        house.open();
        house.open();
        house.fill();
        house.close(0);
        house.place(1, 4, 2);
        CHECK.due("two of five", 2, house::compact);
        int first = sum(7, 'o', 1, 0);
        int second = sum(first, 'f', -1, 0);
        int third = sum(second, 'p', 1, 22);
        CHECK.due("the first sum", first, () -> house.sumAt(0));
        CHECK.due("the second sum", second, () -> house.sumAt(1));
        CHECK.due("the third sum", third, () -> house.sumAt(2));
        CHECK.due("the segment's", third, () -> house.segmentSum(0));
        CHECK.due("no record behind", NO_PLACE, () -> house.sumAt(3));
        house.change(1);
        CHECK.due("the chain goes on", sum(third, 't', 1, 0), () -> house.sumAt(3));
        CHECK.due("the board is told by them", 2, () -> house.atAnew(1, 4));
    }

    /** "Its number is not given again, but one that a crash cut is." */
    private static void numbersThatAreGivenAgain() {
        CheckerLog house = new CheckerLog();
        house.open();
        house.open();
        house.close(1);
        house.compact();
        house.crash(0);
        CHECK.due("not that of a dropped game, also after a crash", 2, house::open);
        house.crash(0);
        CHECK.due("that of one that was cut", 2, house::open);
        house.compact();
        house.spoil(1);
        house.crash(0);
        CHECK.due("that of one that was kept, and cut", 2, house::open);
        house.close(2);
        house.compact();
        house.spoil(0);
        CHECK.due("all are cut or dropped", 0, () -> house.crash(0));
        CHECK.due("0 was cut", 0, house::open);
        CHECK.due("1 and 2 were dropped", 3, house::open);

        CheckerLog claims = new CheckerLog();
        claims.open();
        claims.claim(Houses.setUp(claims, LOST_IN_0));
        claims.fill();
        claims.judge(0);
        claims.close(1);
        claims.compact();
        claims.crash(0);
        CHECK.due("not that of a dropped claim", 1, () -> claims.claim(0));
        claims.crash(0);
        CHECK.due("that of a claim that was cut", 1, () -> claims.claim(0));
        CHECK.due("the next one", 2, () -> claims.claim(0));
    }

    private static void fiveGamesWereOpened() {
        CheckerLog house = new CheckerLog();
        for (int game = 0; game < 5; game++) {
            house.open();
        }
        CHECK.due("five are there", NOT_NOW, house::open);
        house.close(4);
        CHECK.due("a closed one was opened, too", NOT_NOW, house::open);
        house.compact();
        CHECK.due("a dropped one as well", NOT_NOW, house::open);
        house.crash(0);
        CHECK.due("also after a crash", NOT_NOW, house::open);
        house.spoil(3);
        house.crash(0);
        CHECK.due("one was cut", 3, house::open);
        CHECK.due("and opened again", NOT_NOW, house::open);
    }

    /** "All is kept then, as by flushing." */
    private static void allIsKeptAfterCompacting() {
        CheckerLog house = new CheckerLog();
        house.open();
        house.fill();
        house.compact();
        CHECK.due("though nothing was dropped", 1.0f, house::keptShare);
        CHECK.due("no crash cuts it", 2, () -> house.crash(0));
        house.open();
        house.close(0);
        house.compact();
        CHECK.due("what is left", 1.0f, house::keptShare);
        CHECK.due("is not cut", 2, () -> house.crash(0));
        CHECK.due("and is no more than that", "fo", () -> Houses.kindsOf(house));
    }

    /** "A log with a spoilt record is not compacted." */
    private static void aSpoiltLogIsNotCompacted() {
        for (int spoilt = 0; spoilt < 4; spoilt++) {
            CheckerLog house = new CheckerLog();
            house.open();
            house.close(0);
            house.flush();
            house.open();
            house.fill();
            house.spoil(spoilt);
            CHECK.due("spoilt at " + spoilt, NOT_NOW, house::compact);
            CHECK.due("all are there", 4, house::records);
            CHECK.due("two are kept", 0.5f, house::keptShare);
            CHECK.due("the closed game is there", true, () -> house.isClosed(0));
            int left = spoilt;
            CHECK.due("a crash mends it", left, () -> house.crash(240));
            CHECK.due("then it is compacted", left >= 2 ? 2 : 0, house::compact);
        }
    }
}
