import java.lang.reflect.Array;
import java.lang.reflect.Field;

/** Promises 34 to 37: the figures. */
public final class FiguresTest {
    private static final String NONE = "throws.ArithmeticException";

    private static final Check CHECK = new Check();

    public static void main(String[] args) throws ReflectiveOperationException {
        promise34Captured();
        promise35KeptShare();
        promise36MeanPieces();
        promise37IsSound();
        promise37Judgments();
        promise37FindsWhatDiffers();
        CHECK.end("FiguresTest");
    }

    private static void promise34Captured() {
        CheckerLog house = new CheckerLog();
        CHECK.due("34: none", 0, house::captured);
        Houses.setUp(house, "0103000300w");
        house.move(0, 0);
        CHECK.due("34: two at once", 2, house::captured);
        house.place(house.open(), 6, 0);
        house.move(1, 0);
        CHECK.due("34: placing and going capture none", 2, house::captured);
        house.flush();
        house.move(1, 0);
        CHECK.due("34: in two games", 3, house::captured);
        house.crash(0);
        CHECK.due("34: after a crash", 2, house::captured);
        house.close(0);
        CHECK.due("34: closed games too", 2, house::captured);
        house.compact();
        CHECK.due("34: not in dropped games", 0, house::captured);
    }

    private static void promise35KeptShare() {
        CheckerLog house = new CheckerLog();
        CHECK.due("35: no records", NONE, house::keptShare);
        house.open();
        CHECK.due("35: none kept", 0.0f, house::keptShare);
        house.flush();
        CHECK.due("35: all kept", 1.0f, house::keptShare);
        house.fill();
        house.fill();
        CHECK.due("35: a third", 1.0f / 3.0f, house::keptShare);
        house.crash(4);
        CHECK.due("35: after a crash", 1.0f, house::keptShare);
        house.spoil(0);
        house.crash(0);
        CHECK.due("35: all were cut", NONE, house::keptShare);
    }

    private static void promise36MeanPieces() {
        CheckerLog house = new CheckerLog();
        CHECK.due("36: no games", NONE, house::meanPieces);
        house.open();
        CHECK.due("36: the start", 8.0, house::meanPieces);
        house.open();
        house.place(1, 0, 0);
        CHECK.due("36: two games", 7.5, house::meanPieces);
        house.open();
        CHECK.due("36: three games", 23.0 / 3.0, house::meanPieces);
        house.close(0);
        CHECK.due("36: open ones alone", 7.5, house::meanPieces);
        house.close(1);
        house.close(2);
        CHECK.due("36: none is open", NONE, house::meanPieces);
        Houses.setUp(house, "0000000000w");
        CHECK.due("36: no pieces", 0.0, house::meanPieces);
    }

    private static void promise37IsSound() {
        CheckerLog house = new CheckerLog();
        CHECK.due("37: new", true, house::isSound);
        house.claim(Houses.setUp(house, "0010300000w"));
        house.claim(Houses.setUp(house, "0010000300w"));
        CHECK.due("37: games and claims", true, house::isSound);
        house.fill();
        house.fill();
        house.judge(0);
        house.fill();
        house.judge(1);
        CHECK.due("37: judgments", true, house::isSound);
        house.move(0, 0);
        house.close(0);
        CHECK.due("37: closed", true, house::isSound);
        house.crash(200);
        CHECK.due("37: after a crash", true, house::isSound);
        house.compact();
        CHECK.due("37: after compacting", true, house::isSound);
        house.spoil(house.records() - 1);
        CHECK.due("37: spoilt", true, house::isSound);
        house.spoil(0);
        house.crash(0);
        CHECK.due("37: empty again", true, house::isSound);
    }

    /** Granted and refused, with even numbers of claims and odd ones, in any order. */
    private static void promise37Judgments() {
        CheckerLog house = new CheckerLog();
        int lost = Houses.setUp(house, "0000000003w");
        int won = Houses.setUp(house, "0000000003b");
        house.claim(lost);
        house.claim(lost);
        house.claim(won);
        house.claim(won);
        Houses.fillRanks(house, 2);
        for (int claim : new int[] {3, 0, 2, 1}) {
            int c = claim;
            CHECK.due("37: judgment of " + c, c < 2 ? 'r' : 'g', () -> house.judge(c));
            CHECK.due("37: judged " + c, true, house::isSound);
        }
        house.crash(240);
        CHECK.due("37: after a crash that cuts none", true, house::isSound);
        house.close(lost);
        house.compact();
        CHECK.due("37: the refused ones are dropped", true, house::isSound);
    }

    /** No call makes a house unsound: so the state inside is changed to see that the check finds it. */
    private static void promise37FindsWhatDiffers() throws ReflectiveOperationException {
        finds("a piece", "slots", 0, "board", "squares", 5, 2);
        finds("who is to move", "slots", 0, "board", "black", true);
        finds("the last game's board", "slots", 1, "board", "squares", 0, 2);
        finds("a game that is not there", "slots", 4, "there", true);
        finds("a game that is there", "slots", 1, "there", false);
        finds("a closed game", "slots", 0, "closed", true);
        finds("a begun game", "slots", 0, "begun", false);
        finds("captured pieces", "slots", 0, "taken", 1);
        finds("a claim's number", "made", 1, "number", 5);
        finds("a claim's game", "made", 0, "game", 1);
        finds("a claim's board", "made", 1, "key", 4);
        finds("a verdict", "made", 0, "verdict", '?');
        finds("the number of claims", "madeCount", 1);
        finds("the ranks", "ranks", 2);
        judgedTooEarly();
    }

    private static CheckerLog judgedHouse() {
        CheckerLog house = new CheckerLog();
        house.claim(Houses.setUp(house, "0010300000w"));
        house.claim(house.open());
        Houses.fillRanks(house, 3);
        house.judge(0);
        return house;
    }

    /** Sets what the path leads to, from the house's state on, to the last of the path. */
    private static void finds(String what, Object... path) throws ReflectiveOperationException {
        CheckerLog house = judgedHouse();
        Object inside = fieldOf(CheckerLog.class, "house").get(house);
        for (int i = 0; i < path.length - 2; i++) {
            inside = path[i] instanceof Integer place ? Array.get(inside, place)
                    : fieldOf(inside.getClass(), (String) path[i]).get(inside);
        }
        Object last = path[path.length - 2];
        if (last instanceof Integer place) {
            Array.set(inside, place, path[path.length - 1]);
        } else {
            fieldOf(inside.getClass(), (String) last).set(inside, path[path.length - 1]);
        }
        CHECK.due("37: " + what, false, house::isSound);
        house.spoil(0);
        CHECK.due("37: " + what + ", and a record is spoilt", true, house::isSound);
    }

    /** A log whose sums fit, but whose judgment stands ahead of the rank that it needs. */
    private static void judgedTooEarly() throws ReflectiveOperationException {
        CheckerLog house = judgedHouse();
        Object log = fieldOf(CheckerLog.class, "log").get(house);
        char[] kinds = (char[]) fieldOf(log.getClass(), "kinds").get(log);
        int[] games = (int[]) fieldOf(log.getClass(), "games").get(log);
        int[] numbers = (int[]) fieldOf(log.getClass(), "numbers").get(log);
        int[] sums = (int[]) fieldOf(log.getClass(), "sums").get(log);
        int last = house.records() - 1;
        for (int place = last; place > last - 2; place--) {
            kinds[place] = kinds[place - 1];
            games[place] = games[place - 1];
            numbers[place] = numbers[place - 1];
        }
        kinds[last - 2] = 'j';
        games[last - 2] = 0;
        numbers[last - 2] = 1;
        for (int place = last - 2; place <= last; place++) {
            sums[place] = 31 * (31 * (31 * sums[place - 1] + kinds[place]) + games[place]) + numbers[place];
        }
        CHECK.due("37: the log is 'jff' at its end", "jff", () -> Houses.kindsOf(house).substring(last - 2));
        CHECK.due("37: judged ahead of the rank", false, house::isSound);
    }

    private static Field fieldOf(Class<?> type, String name) throws ReflectiveOperationException {
        Field field = type.getDeclaredField(name);
        field.setAccessible(true);
        return field;
    }
}
