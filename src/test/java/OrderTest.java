import java.util.ArrayList;
import java.util.List;

/** Where several grounds of a refusal meet, the one that the document names first; every set of grounds is tried. */
public final class OrderTest {
    private static final long NO_PLACE = -1001;
    private static final long NO_VALUE = -1002;
    private static final long NO_STATE = -1003;
    private static final String LONG_TEXT = "a=3;".repeat(99);

    interface Maker {
        StrangerHall make();
    }

    interface Call {
        long run(StrangerHall hall, int[] args);
    }

    /** What is answered if the arguments at these places are these. */
    record Ground(long due, int... changes) {
    }

    private final String name;
    private final Maker maker;
    private final Call call;
    private final int[] good;
    private final long goodDue;
    private final List<Ground> grounds = new ArrayList<>();

    private OrderTest(String name, Maker maker, Call call, long goodDue, int... good) {
        this.name = name;
        this.maker = maker;
        this.call = call;
        this.good = good;
        this.goodDue = goodDue;
    }

    /** Grounds come in the order in which the document names them. */
    private OrderTest ground(long due, int... changes) {
        grounds.add(new Ground(due, changes));
        return this;
    }

    private void go() {
        for (int set = 0; set < 1 << grounds.size(); set++) {
            int[] args = good.clone();
            long due = goodDue;
            // From the last to the first, so that the first one's arguments stand at last.
            for (int i = grounds.size() - 1; i >= 0; i--) {
                if ((set >> i & 1) == 1) {
                    Ground ground = grounds.get(i);
                    due = ground.due();
                    for (int k = 0; k < ground.changes().length; k += 2) {
                        args[ground.changes()[k]] = ground.changes()[k + 1];
                    }
                }
            }
            Check.is(name + java.util.Arrays.toString(args), answer(maker.make(), call, args), due);
        }
    }

    private static long answer(StrangerHall hall, Call call, int[] args) {
        try {
            return call.run(hall, args);
        } catch (IndexOutOfBoundsException e) {
            return NO_PLACE;
        } catch (IllegalArgumentException e) {
            return NO_VALUE;
        } catch (IllegalStateException e) {
            return NO_STATE;
        }
    }

    public static void main(String[] args) {
        texts();
        machine();
        pieces();
        quarrels();
        doubts();
        bids();
        parts();
        alone();
        Check.end();
    }

    /** Task 0 is cut into 20, task 1 isn't cut, task 2 never ends, task 3 has no step. */
    private static StrangerHall hall() {
        StrangerHall hall = new StrangerHall();
        Check.task(hall, 1000, LONG_TEXT);
        Check.task(hall, 1000, LONG_TEXT);
        Check.task(hall, 1000, "while 1{}");
        hall.task(1000, 0);
        hall.cut(0, 10);
        for (int h = 0; h < 3; h++) {
            hall.house(1000);
        }
        hall.give(0, 0, 0, 1, 1, 1);
        hall.bid(0, 5, 0, 1, 5, 0);
        return hall;
    }

    private static StrangerHall sixTasks() {
        StrangerHall hall = new StrangerHall();
        for (int i = 0; i < 6; i++) {
            hall.task(0, 0);
        }
        Check.feed(hall, "a=100000;");
        return hall;
    }

    private static StrangerHall oneTape() {
        StrangerHall hall = new StrangerHall();
        Check.feed(hall, "a=100000;");
        return hall;
    }

    private static void texts() {
        new OrderTest("P3 task", OrderTest::oneTape, (x, a) -> x.task(a[0], a[1]), 0, 5, 0)
            .ground(NO_VALUE, 0, -1).ground(NO_VALUE, 1, 21).ground(-8, 1, 9).go();
        new OrderTest("P3 task with six", OrderTest::sixTasks, (x, a) -> x.task(a[0], a[1]), -1, 5, 0)
            .ground(NO_VALUE, 0, 1000001).ground(NO_VALUE, 1, -1).ground(-1, 1, 9).go();
        new OrderTest("P5 code", OrderTest::hall, (x, a) -> x.code(a[0], a[1], a[2]), 1, 0, 0, 0)
            .ground(NO_PLACE, 0, 4).ground(NO_VALUE, 2, 2).ground(-1, 1, 199).go();
    }

    private static void machine() {
        new OrderTest("P6 memory", OrderTest::hall, (x, a) -> x.memory(a[0], a[1], 5), 1, 1, 0)
            .ground(NO_PLACE, 0, -1).ground(NO_VALUE, 1, 64).ground(-1, 0, 0).go();
        new OrderTest("P8 cell", OrderTest::hall, (x, a) -> x.cell(a[0], a[1], a[2]), 3, 0, 1, 32)
            .ground(NO_PLACE, 0, 4).ground(NO_VALUE, 2, 128).ground(NO_VALUE, 1, 20001).go();
        new OrderTest("P9 sum", OrderTest::hall, (x, a) -> x.sum(a[0], a[1]), hall().sum(0, 1), 0, 1)
            .ground(NO_PLACE, 0, 4).ground(NO_VALUE, 1, -1).go();
        new OrderTest("P10 beside", OrderTest::hall, (x, a) -> x.beside(a[0], a[1], a[2], a[3]), hall().beside(0, 1, 2, 3), 0, 1, 2, 3)
            .ground(NO_PLACE, 0, 4).ground(NO_VALUE, 2, 16).ground(NO_VALUE, 3, 4).ground(NO_VALUE, 1, -1).go();
        new OrderTest("P12 shown", OrderTest::hall, (x, a) -> x.shown(a[0], a[1], a[2], 5) ? 1 : 0, 0, 0, 1, 2)
            .ground(NO_PLACE, 0, 4).ground(NO_VALUE, 2, -1).ground(NO_VALUE, 1, 20001).go();
    }

    private static void pieces() {
        new OrderTest("P13 cut", OrderTest::hall, (x, a) -> x.cut(a[0], a[1]), 20, 1, 10)
            .ground(NO_PLACE, 0, 4).ground(NO_VALUE, 1, 9).ground(-1, 0, 0).go();
        new OrderTest("P13 cut one that never ends", OrderTest::hall, (x, a) -> x.cut(a[0], a[1]), -2, 2, 20000)
            .ground(NO_VALUE, 1, 20001).ground(-2, 1, 10).go();
        new OrderTest("P13 cut one without steps", OrderTest::hall, (x, a) -> x.cut(a[0], a[1]), -3, 3, 20000)
            .ground(NO_VALUE, 1, 9).ground(-3, 1, 10).go();
        new OrderTest("P15 told", OrderTest::hall, (x, a) -> x.told(a[0], a[1]), 999, 0, 0)
            .ground(NO_PLACE, 0, 3).ground(NO_VALUE, 1, 3).go();
        new OrderTest("P16 rule", OrderTest::hall, (x, a) -> x.rule(a[0], a[1]), 10, 0, 1)
            .ground(NO_VALUE, 0, 3).ground(NO_VALUE, 1, 0).go();
        new OrderTest("P17 give", OrderTest::hall, (x, a) -> x.give(a[0], a[1], a[2], a[3], a[4], a[5]), 1, 0, 1, 1, 5, 5, 5)
            .ground(NO_PLACE, 0, 4).ground(NO_PLACE, 1, 20).ground(NO_PLACE, 2, 3)
            .ground(NO_VALUE, 3, -1).ground(NO_VALUE, 4, 1000001).ground(NO_VALUE, 5, 1001)
            .ground(-1, 1, 0).ground(-2, 3, 1000).ground(-3, 4, 1001).go();
        new OrderTest("P18 claim", OrderTest::hall, (x, a) -> x.claim(a[0], a[1], 5), 1, 0, 0)
            .ground(NO_PLACE, 0, -1).ground(NO_PLACE, 1, -1).ground(-1, 1, 1).go();
        new OrderTest("P20 piece", OrderTest::hall, (x, a) -> x.piece(a[0], a[1], a[2]), 1, 0, 0, 0)
            .ground(NO_PLACE, 0, 4).ground(NO_PLACE, 1, 20).ground(NO_VALUE, 2, 10).go();
    }

    private static StrangerHall quarrel() {
        StrangerHall hall = hall();
        hall.claim(0, 0, 1);
        hall.doubt(0, 0, 1, 2);
        hall.answer(0, 0, false, 1);
        return hall;
    }

    private static StrangerHall lastTick() {
        StrangerHall hall = new StrangerHall();
        for (int i = 0; i < 100; i++) {
            hall.tick(1000);
        }
        return hall;
    }

    private static void quarrels() {
        new OrderTest("P21 answer", OrderTest::quarrel, (x, a) -> x.answer(a[0], a[1], a[2] == 1, 5), 1, 0, 0, 1)
            .ground(NO_PLACE, 0, 4).ground(NO_PLACE, 1, 20).ground(-1, 1, 1).ground(-2, 2, 0).go();
        new OrderTest("P22 tick", OrderTest::lastTick, (x, a) -> x.tick(a[0]), 100000, 0)
            .ground(NO_VALUE, 0, 1001).ground(NO_STATE, 0, 1).go();
    }

    /**
     * Pieces two by two, the second one to be doubted: it is of house 1, which is poor, or of 0; it is given or claimed;
     * the one ahead is open or claimed. House 2 is poor, 3 is not.
     */
    private static StrangerHall doubtful() {
        StrangerHall hall = new StrangerHall();
        Check.task(hall, 1000, LONG_TEXT);
        hall.cut(0, 10);
        hall.house(1000);
        hall.house(4 * 31 + 30);
        hall.house(30);
        hall.house(31);
        for (int c = 0; c < 8; c++) {
            hall.give(0, 2 * c + 1, c >> 2 & 1, 1, 31, 900);
            if ((c & 1) == 0) {
                hall.claim(0, 2 * c + 1, 5);
            }
            if ((c & 2) == 0) {
                hall.give(0, 2 * c, 0, 1, 0, 900);
                hall.claim(0, 2 * c, 5);
            }
        }
        return hall;
    }

    /** "the first of these: -1 .. -2 .. -3 .. -4 .. -5" */
    private static void doubts() {
        for (int set = 0; set < 32; set++) {
            boolean notClaimed = (set & 1) != 0;
            boolean own = (set & 2) != 0;
            boolean alike = (set & 4) != 0;
            boolean ahead = (set & 8) != 0;
            boolean poor = (set & 16) != 0;
            int c = (notClaimed ? 1 : 0) + (ahead ? 2 : 0) + (own && poor ? 4 : 0);
            int house = own ? c >> 2 : poor ? 2 : 3;
            int number = alike ? notClaimed ? 0 : 5 : 6;
            int due = notClaimed ? -1 : own ? -2 : alike ? -3 : ahead ? -4 : poor ? -5 : 1;
            String what = "P19 doubt, piece " + (2 * c + 1) + " by " + house + " with " + number;
            Check.is(what, doubtful().doubt(0, 2 * c + 1, house, number), due);
            new OrderTest(what, OrderTest::doubtful, (x, a) -> x.doubt(a[0], a[1], a[2], number), due, 0, 2 * c + 1, house)
                .ground(NO_PLACE, 0, 1).ground(NO_PLACE, 1, 20).ground(NO_PLACE, 2, 4).go();
        }
    }

    private static StrangerHall manyBids() {
        StrangerHall hall = hall();
        for (int i = 1; i < 24; i++) {
            hall.bid(0, 5 + i / 3, i % 3, 1, 1, 1);
        }
        Check.is("P31 24 bids", hall.count(5), 24);
        return hall;
    }

    private static void bids() {
        new OrderTest("P23 trial", OrderTest::hall, (x, a) -> x.trial(a[0], a[1], a[2], 5) ? 1 : 0, 0, 0, 0, 0)
            .ground(NO_PLACE, 0, 3).ground(NO_PLACE, 1, 4).ground(NO_VALUE, 2, 20001).go();
        Maker[] makers = {OrderTest::hall, OrderTest::manyBids};
        for (int i = 0; i < 2; i++) {
            new OrderTest("P24 bid", makers[i], (x, a) -> x.bid(a[0], a[1], a[2], a[3], a[4], a[5]), i == 0 ? 1 : -2, 0, 1, 0, 1, 1, 1)
                .ground(NO_PLACE, 0, 4).ground(NO_PLACE, 1, -1).ground(NO_PLACE, 2, 3)
                .ground(NO_VALUE, 3, 1000001).ground(NO_VALUE, 5, -1).ground(NO_VALUE, 4, 1001).ground(-1, 1, 0).go();
        }
        new OrderTest("P25 cost", OrderTest::hall, (x, a) -> x.cost(a[0], a[1], a[2]), 600, 0, 5, 0)
            .ground(NO_PLACE, 0, 4).ground(NO_PLACE, 1, 20).ground(NO_PLACE, 2, -1).ground(-1, 1, 6).go();
        new OrderTest("P26 chosen", OrderTest::hall, (x, a) -> x.chosen(a[0], a[1], a[2], a[3]), 600, 0, 32, 5, -1)
            .ground(NO_PLACE, 0, 4).ground(NO_VALUE, 1, 1 << 20).ground(NO_VALUE, 2, 5001).ground(NO_VALUE, 3, 20).ground(-2, 2, 4).go();
        new OrderTest("P26 chosen", OrderTest::hall, (x, a) -> x.chosen(a[0], a[1], a[2], a[3]), 0, 0, 32, 5, 5)
            .ground(NO_VALUE, 1, 0).ground(NO_VALUE, 2, 0).ground(NO_VALUE, 3, -2).ground(-2, 1, 33).go();
        new OrderTest("P26 chosen of one that isn't cut", OrderTest::hall, (x, a) -> x.chosen(a[0], a[1], 1, a[2]), NO_VALUE, 1, 1, -1)
            .ground(NO_PLACE, 0, 4).ground(NO_VALUE, 2, 20).go();
    }

    private static void parts() {
        new OrderTest("P28 lot", OrderTest::hall, (x, a) -> x.lot(a[0], a[1], a[2], 5), 0, 0, 0, 0)
            .ground(NO_PLACE, 0, 4).ground(NO_VALUE, 1, 7).ground(NO_VALUE, 2, 64).go();
        new OrderTest("P29 part", OrderTest::hall, (x, a) -> x.part(a[0], a[1], a[2], a[3]), 0, 0, 2, 0, 0)
            .ground(NO_PLACE, 0, 4).ground(NO_VALUE, 1, 9).ground(NO_VALUE, 2, -1).ground(NO_VALUE, 3, -1).go();
        new OrderTest("P30 out", OrderTest::hall, (x, a) -> x.out(a[0], a[1], a[2]), 0, 0, 0, 0)
            .ground(NO_PLACE, 0, 4).ground(NO_VALUE, 1, 1).ground(NO_VALUE, 2, 10).go();
    }

    /** "no such TASK (so below)", "no such TASK, PIECE, HOUSE (so below)": each argument at, and far beyond, both ends */
    private static void alone() {
        int[] far = {-1, Integer.MIN_VALUE, Integer.MAX_VALUE};
        for (int place : far) {
            noTask(place);
            noPiece(0, place);
            noHouse(place);
        }
        noTask(4);
        noTask(6);
        noPiece(0, 20);
        noPiece(0, 31);
        noPiece(1, 0);
        noPiece(3, 0);
        noHouse(3);
        noHouse(8);
    }

    private static void noTask(int task) {
        StrangerHall x = hall();
        String what = " of task " + task;
        Check.noPlace("P5 code" + what, () -> x.code(task, 0, 0));
        Check.noPlace("P6 memory" + what, () -> x.memory(task, 0, 0));
        Check.noPlace("P7 length" + what, () -> x.length(task));
        Check.noPlace("P8 cell" + what, () -> x.cell(task, 0, 0));
        Check.noPlace("P9 sum" + what, () -> x.sum(task, 0));
        Check.noPlace("P10 beside" + what, () -> x.beside(task, 0, 0, 0));
        Check.noPlace("P12 shown" + what, () -> x.shown(task, 0, 0, 0) ? 1 : 0);
        Check.noPlace("P13 cut" + what, () -> x.cut(task, 10));
        Check.noPlace("P23 trial" + what, () -> x.trial(0, task, 0, 0) ? 1 : 0);
        Check.noPlace("P26 chosen" + what, () -> x.chosen(task, 1, 1, -1));
        Check.noPlace("P27 linear" + what, () -> x.linear(task));
        Check.noPlace("P28 lot" + what, () -> x.lot(task, 0, 0, 0));
        Check.noPlace("P29 part" + what, () -> x.part(task, 2, 0, 0));
        Check.noPlace("P30 out" + what, () -> x.out(task, 0, 0));
        Check.noPlace("P32 purse" + what, () -> x.purse(task));
        noPiece(task, 0);
    }

    private static void noPiece(int task, int piece) {
        StrangerHall x = hall();
        String what = " of piece " + piece + " of task " + task;
        Check.noPlace("P17 give" + what, () -> x.give(task, piece, 0, 0, 0, 1));
        Check.noPlace("P18 claim" + what, () -> x.claim(task, piece, 0));
        Check.noPlace("P19 doubt" + what, () -> x.doubt(task, piece, 0, 0));
        Check.noPlace("P20 piece" + what, () -> x.piece(task, piece, 0));
        Check.noPlace("P21 answer" + what, () -> x.answer(task, piece, true, 0));
        Check.noPlace("P24 bid" + what, () -> x.bid(task, piece, 0, 0, 1, 0));
        Check.noPlace("P25 cost" + what, () -> x.cost(task, piece, 0));
    }

    private static void noHouse(int house) {
        StrangerHall x = hall();
        String what = " of house " + house;
        Check.noPlace("P15 told" + what, () -> x.told(house, 0));
        Check.noPlace("P17 give" + what, () -> x.give(0, 1, house, 0, 0, 1));
        Check.noPlace("P19 doubt" + what, () -> x.doubt(0, 0, house, 0));
        Check.noPlace("P23 trial" + what, () -> x.trial(house, 0, 0, 0) ? 1 : 0);
        Check.noPlace("P24 bid" + what, () -> x.bid(0, 1, house, 0, 1, 0));
        Check.noPlace("P25 cost" + what, () -> x.cost(0, 5, house));
    }
}
