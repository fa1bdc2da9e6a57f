/** Promises 34 to 37: the figures. */
public final class FiguresTest {
    private static final String NONE = "throws.ArithmeticException";

    private static final Check CHECK = new Check();

    public static void main(String[] args) {
        promise34Captured();
        promise35KeptShare();
        promise36MeanPieces();
        promise37IsSound();
        CHECK.end("FiguresTest");
    }

    private static void promise34Captured() {
        CheckerLog house = new CheckerLog();
        CHECK.due("34: none", 0, house::captured);
        Houses.setUp(house, "0103000300w");
        house.move(0, 0);
        CHECK.due("34: two at once", 2, house::captured);
        house.place(house.open(), 6, 0);
        house.move(1, 0);
        CHECK.due("34: placing and going capture none", 2, house::captured);
        house.flush();
        house.move(1, 0);
        CHECK.due("34: in two games", 3, house::captured);
        house.crash(0);
        CHECK.due("34: after a crash", 2, house::captured);
        house.close(0);
        CHECK.due("34: closed games too", 2, house::captured);
        house.compact();
        CHECK.due("34: not in dropped games", 0, house::captured);
    }

    private static void promise35KeptShare() {
        CheckerLog house = new CheckerLog();
        CHECK.due("35: no records", NONE, house::keptShare);
        house.open();
        CHECK.due("35: none kept", 0.0f, house::keptShare);
        house.flush();
        CHECK.due("35: all kept", 1.0f, house::keptShare);
        house.fill();
        house.fill();
        CHECK.due("35: a third", 1.0f / 3.0f, house::keptShare);
        house.crash(4);
        CHECK.due("35: after a crash", 1.0f, house::keptShare);
        house.spoil(0);
        house.crash(0);
        CHECK.due("35: all were cut", NONE, house::keptShare);
    }

    private static void promise36MeanPieces() {
        CheckerLog house = new CheckerLog();
        CHECK.due("36: no games", NONE, house::meanPieces);
        house.open();
        CHECK.due("36: the start", 8.0, house::meanPieces);
        house.open();
        house.place(1, 0, 0);
        CHECK.due("36: two games", 7.5, house::meanPieces);
        house.open();
        CHECK.due("36: three games", 23.0 / 3.0, house::meanPieces);
        house.close(0);
        CHECK.due("36: open ones alone", 7.5, house::meanPieces);
        house.close(1);
        house.close(2);
        CHECK.due("36: none is open", NONE, house::meanPieces);
        Houses.setUp(house, "0000000000w");
        CHECK.due("36: no pieces", 0.0, house::meanPieces);
    }

    private static void promise37IsSound() {
        CheckerLog house = new CheckerLog();
        CHECK.due("37: new", true, house::isSound);
        house.claim(Houses.setUp(house, "0010300000w"));
        house.claim(Houses.setUp(house, "0010000300w"));
        CHECK.due("37: games and claims", true, house::isSound);
        house.fill();
        house.fill();
        house.judge(0);
        house.fill();
        house.judge(1);
        CHECK.due("37: judgments", true, house::isSound);
        house.move(0, 0);
        house.close(0);
        CHECK.due("37: closed", true, house::isSound);
        house.crash(200);
        CHECK.due("37: after a crash", true, house::isSound);
        house.compact();
        CHECK.due("37: after compacting", true, house::isSound);
        house.spoil(house.records() - 1);
        CHECK.due("37: spoilt", true, house::isSound);
        house.spoil(0);
        house.crash(0);
        CHECK.due("37: empty again", true, house::isSound);
    }
}
