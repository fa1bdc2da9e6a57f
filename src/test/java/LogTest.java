/** Promises 24 to 33: the log. */
public final class LogTest {
    private static final String NO_PLACE = "throws.IndexOutOfBoundsException";
    private static final String BAD_ARGUMENT = "throws.IllegalArgumentException";
    private static final String NOT_NOW = "throws.UnsupportedOperationException";
    private static final String WON_IN_1 = "0010300000w";

    private static final Check CHECK = new Check();

    public static void main(String[] args) {
        promise24Flush();
        promise25Crash();
        promise25CrashCuts();
        promise26Spoil();
        promise27Compact();
        promise27OpenClaims();
        promise27Numbers();
        promise27CutAndDropped();
        promise28Records();
        promise29To31Records();
        promise32Sums();
        promise33SegmentSums();
        CHECK.end("LogTest");
    }

    private static void promise24Flush() {
        CheckerLog house = new CheckerLog();
        CHECK.due("24: none", 0, house::flush);
        house.open();
        house.open();
        CHECK.due("24: two", 2, house::flush);
        house.open();
        CHECK.due("24: kept", 2, () -> house.crash(0));
        CHECK.due("24: again", 2, house::flush);
        house.fill();
        house.spoil(0);
        CHECK.due("24: spoilt ones too", 3, house::flush);
    }

    private static void promise25Crash() {
        CheckerLog house = new CheckerLog();
        house.open();
        house.flush();
        Houses.fillRanks(house, 5);
        CHECK.due("25: -1", BAD_ARGUMENT, () -> house.crash(-1));
        CHECK.due("25: 241", BAD_ARGUMENT, () -> house.crash(241));
        CHECK.due("25: nothing is lost by that", 6, house::records);
        CHECK.due("25: 4 records and a torn one", 5, () -> house.crash(19));
        CHECK.due("25: ranks", 4, house::ranks);
        CHECK.due("25: it is kept", 5, () -> house.crash(0));
        house.fill();
        CHECK.due("25: a torn one alone", 5, () -> house.crash(3));
        house.fill();
        CHECK.due("25: as many as there are", 6, () -> house.crash(240));
        CHECK.due("25: all kept", 1.0f, house::keptShare);
        house.place(0, 4, 2);
        house.move(0, 0);
        house.close(0);
        house.crash(4);
        CHECK.due("25: the game goes on", false, () -> house.isClosed(0));
        CHECK.due("25: the board", "1111203333w", () -> Houses.boardOf(house, 0));
        CHECK.due("25: no move was made", 2, () -> house.place(0, 4, 0));
        house.claim(0);
        house.crash(4);
        CHECK.due("25: the claim was cut", NO_PLACE, () -> house.verdict(0));
        CHECK.due("25: nothing was claimed", 0, () -> house.place(0, 4, 1));
        CheckerLog unflushed = new CheckerLog();
        unflushed.open();
        CHECK.due("25: nothing is kept at first", 0, () -> unflushed.crash(0));
        CHECK.due("25: no game", NO_PLACE, () -> unflushed.at(0, 0));
        CHECK.due("25: its number is given again", 0, unflushed::open);
    }

    private static void promise25CrashCuts() {
        CheckerLog house = new CheckerLog();
        house.open();
        house.open();
        house.open();
        house.flush();
        house.fill();
        house.spoil(1);
        CHECK.due("25: cut from the spoilt one on", 1, () -> house.crash(240));
        CHECK.due("25: games", 1, house::games);
        CHECK.due("25: ranks", 0, house::ranks);
        CHECK.due("25: records go on from there", 1, house::open);
        CHECK.due("25: none is spoilt", 0, house::compact);
        house.fill();
        house.fill();
        house.spoil(3);
        CHECK.due("25: a spoilt one in the torn tail", 3, () -> house.crash(4));
        CHECK.due("25: it is gone", 0, house::compact);
        house.fill();
        house.spoil(0);
        house.spoil(3);
        CHECK.due("25: from the first one on", 0, () -> house.crash(240));
    }

    private static void promise26Spoil() {
        CheckerLog house = new CheckerLog();
        house.open();
        house.place(0, 4, 2);
        int sum = house.sumAt(1);
        CHECK.due("26: it fitted", true, () -> house.spoil(1));
        CHECK.due("26: its number", 23, () -> house.numberAt(1));
        CHECK.due("26: its sum", sum, () -> house.sumAt(1));
        CHECK.due("26: the board", 2, () -> house.at(0, 4));
        CHECK.due("26: spoilt already", false, () -> house.spoil(1));
        CHECK.due("26: once more", 24, () -> house.numberAt(1));
        CHECK.due("26: the one ahead still fits", true, () -> house.spoil(0));
        CHECK.due("26: no record", NO_PLACE, () -> house.spoil(2));
        CHECK.due("26: record -1", NO_PLACE, () -> house.spoil(-1));
        house.fill();
        CHECK.due("26: one behind fits", true, () -> house.spoil(2));

        CheckerLog kept = new CheckerLog();
        kept.open();
        kept.open();
        kept.flush();
        kept.spoil(1);
        CHECK.due("26: where it is kept, too", 1, () -> kept.crash(0));
        kept.open();
        kept.spoil(1);
        kept.flush();
        CHECK.due("26: spoilt, then kept", 1, () -> kept.crash(0));
    }

    private static void promise27Compact() {
        CheckerLog house = new CheckerLog();
        Houses.setUp(house, WON_IN_1);
        house.fill();
        house.open();
        house.claim(0);
        house.claim(1);
        house.fill();
        house.judge(0);
        house.move(1, 0);
        CHECK.due("27: no game is closed", 0, house::compact);
        CHECK.due("27: all is kept", 1.0f, house::keptShare);
        house.close(0);
        int records = house.records();
        int dropped = records - 5;
        CHECK.due("27: dropped", dropped, house::compact);
        CHECK.due("27: all else stays in its order", "focfm", () -> Houses.kindsOf(house));
        CHECK.due("27: the claim keeps its number", "c 1 1", () -> Houses.recordOf(house, 2));
        CHECK.due("27: new sums", 31 * (31 * (31 * 7 + 'f') - 1), () -> house.sumAt(0));
        CHECK.due("27: the sums fit", true, () -> house.spoil(4));
        CHECK.due("27: spoilt", NOT_NOW, house::compact);
        CHECK.due("27: the game is not there", NO_PLACE, () -> house.at(0, 0));
        CHECK.due("27: its claim neither", NO_PLACE, () -> house.verdict(0));
        CHECK.due("27: the other is", 1, () -> house.gameOf(1));
        CHECK.due("27: all is kept", 4, () -> house.crash(0));
        CHECK.due("27: ranks", 2, house::ranks);
        CHECK.due("27: sound", true, house::isSound);
    }

    private static void promise27OpenClaims() {
        CheckerLog house = new CheckerLog();
        house.claim(Houses.setUp(house, WON_IN_1));
        house.claim(0);
        house.close(0);
        int records = house.records();
        CHECK.due("27: an open claim is not forgotten", 0, house::compact);
        CHECK.due("27: records", records, house::records);
        Houses.fillRanks(house, 2);
        house.judge(1);
        CHECK.due("27: one of two is judged", 0, house::compact);
        CHECK.due("27: the judged one is there", 'g', () -> house.verdict(1));
        house.judge(0);
        CHECK.due("27: both are judged", records + 2, house::compact);
        CHECK.due("27: ranks stay", "ff", () -> Houses.kindsOf(house));
    }

    private static void promise27Numbers() {
        CheckerLog house = new CheckerLog();
        house.claim(Houses.setUp(house, WON_IN_1));
        Houses.fillRanks(house, 2);
        house.judge(0);
        house.close(0);
        house.compact();
        CHECK.due("27: a dropped game's number is not given again", 1, house::open);
        CHECK.due("27: nor a dropped claim's", 1, () -> house.claim(1));
        house.crash(0);
        CHECK.due("27: but that of a game that was cut", 1, house::open);
        CHECK.due("27: and that of a claim", 1, () -> house.claim(1));
        CHECK.due("27: the next game", 2, house::open);
    }

    /** A number that was cut lies below one that was dropped. */
    private static void promise27CutAndDropped() {
        CheckerLog house = new CheckerLog();
        house.open();
        house.open();
        house.place(1, 4, 3);
        house.place(1, 6, 0);
        house.claim(0);
        for (int square : new int[] {0, 1, 2, 3, 6, 7, 8, 9}) {
            house.place(1, square, 0);
        }
        house.place(1, 2, 1);
        house.claim(1);
        Houses.fillRanks(house, 2);
        CHECK.due("27: granted", 'g', () -> house.judge(1));
        house.close(1);
        house.compact();
        house.spoil(0);
        CHECK.due("27: all is cut", 0, () -> house.crash(0));
        CHECK.due("27: the game that was cut", 0, house::open);
        CHECK.due("27: not the one that was dropped", 2, house::open);
        CHECK.due("27: the claim that was cut", 0, () -> house.claim(2));
        CHECK.due("27: not the claim that was dropped", 2, () -> house.claim(0));
        house.open();
        house.open();
        CHECK.due("27: 5 games were opened", NOT_NOW, house::open);
    }

    private static void promise28Records() {
        CheckerLog house = new CheckerLog();
        CHECK.due("28: none", 0, house::records);
        house.open();
        house.place(0, 4, 0);
        house.moves(0);
        house.at(0, 0);
        house.isSound();
        CHECK.due("28: two", 2, house::records);
        Houses.fillLog(house);
        CHECK.due("28: all", 60, house::records);
        Check.answerOf(house::open);
        CHECK.due("28: no more", 60, house::records);
    }

    private static void promise29To31Records() {
        CheckerLog house = new CheckerLog();
        house.open();
        house.open();
        house.place(1, 9, 2);
        house.change(1);
        house.move(1, 1);
        house.claim(1);
        house.fill();
        house.fill();
        house.claim(Houses.setUp(house, "0000000010w"));
        house.judge(1);
        house.close(1);
        int last = house.records() - 1;
        CHECK.due("29: kind", 'o', () -> house.kindAt(0));
        CHECK.due("31: opened", "o 1 0", () -> Houses.recordOf(house, 1));
        CHECK.due("30: placed", "p 1 47", () -> Houses.recordOf(house, 2));
        CHECK.due("30: changed", "t 1 0", () -> Houses.recordOf(house, 3));
        CHECK.due("30: moved", "m 1 1", () -> Houses.recordOf(house, 4));
        CHECK.due("30: claimed", "c 1 0", () -> Houses.recordOf(house, 5));
        CHECK.due("31: filled", "f -1 0", () -> Houses.recordOf(house, 6));
        CHECK.due("30: filled", "f -1 1", () -> Houses.recordOf(house, 7));
        CHECK.due("30: refused", "j 2 2", () -> Houses.recordOf(house, last - 1));
        CHECK.due("30: closed", "x 1 0", () -> Houses.recordOf(house, last));
        for (int record : new int[] {-1, last + 1, 60, Integer.MAX_VALUE, Integer.MIN_VALUE}) {
            CHECK.due("29: no record", NO_PLACE, () -> house.kindAt(record));
            CHECK.due("30: no record", NO_PLACE, () -> house.numberAt(record));
            CHECK.due("31: no record", NO_PLACE, () -> house.gameAt(record));
            CHECK.due("32: no record", NO_PLACE, () -> house.sumAt(record));
        }
        house.crash(4);
        CHECK.due("29: a record that was cut", NO_PLACE, () -> house.kindAt(1));
    }

    private static int sum(int ahead, char kind, int game, int number) {
        return 31 * (31 * (31 * ahead + kind) + game) + number;
    }

    private static void promise32Sums() {
        CheckerLog house = new CheckerLog();
        house.open();
        house.place(0, 4, 2);
        house.fill();
        int first = sum(7, 'o', 0, 0);
        int second = sum(first, 'p', 0, 22);
        int third = sum(second, 'f', -1, 0);
        CHECK.due("32: first", 315208, () -> house.sumAt(0));
        CHECK.due("32: second", second, () -> house.sumAt(1));
        CHECK.due("32: third", third, () -> house.sumAt(2));
        house.spoil(2);
        CHECK.due("32: as it was written", third, () -> house.sumAt(2));
        house.open();
        CHECK.due("32: behind a spoilt one", sum(third, 'o', 1, 0), () -> house.sumAt(3));
    }

    private static void promise33SegmentSums() {
        CheckerLog house = new CheckerLog();
        CHECK.due("33: no segment", NO_PLACE, () -> house.segmentSum(0));
        Houses.fillRanks(house, 4);
        CHECK.due("33: a whole one", house.sumAt(3), () -> house.segmentSum(0));
        CHECK.due("33: no second one", NO_PLACE, () -> house.segmentSum(1));
        house.fill();
        CHECK.due("33: the last one has fewer", house.sumAt(4), () -> house.segmentSum(1));
        CHECK.due("33: the first one", house.sumAt(3), () -> house.segmentSum(0));
        house.fill();
        CHECK.due("33: two of four", house.sumAt(5), () -> house.segmentSum(1));
        Houses.fillLog(house);
        CHECK.due("33: the last of all", house.sumAt(59), () -> house.segmentSum(14));
        for (int segment : new int[] {-1, 15, 1 << 30, Integer.MAX_VALUE, Integer.MIN_VALUE}) {
            CHECK.due("33: no segment", NO_PLACE, () -> house.segmentSum(segment));
        }
    }
}
