/** Edges of terms 4 and promises 23 to 26, sentence by sentence: trials, bids, costs and the chosen. */
public final class BidEdgesTest {
    private static final int MIN = Integer.MIN_VALUE;
    private static final int MAX = Integer.MAX_VALUE;
    /** 198 steps: 20 pieces of 10, the last one of 8. */
    private static final String LONG_TEXT = "a=3;".repeat(99);

    public static void main(String[] args) {
        trialCounts();
        trialAtEachEnd();
        trialPaysNothing();
        bidBounds();
        bidAsksForNoCoins();
        bidToldAnew();
        bidOfEachHouse();
        bidsMost24();
        bidsMost24OverTasks();
        bidsGoneWhenGiven();
        bidsBehindVoid();
        costOfNothingKnown();
        costOfKeptAndLies();
        costOfPieces();
        costIsGreat();
        costWithout();
        chosenBits();
        chosenHoursBounds();
        chosenWhat();
        chosenOne();
        chosenFive();
        chosenHoursTogether();
        chosenPledgesTogether();
        chosenCoinsOfNow();
        chosenLeastTogether();
        chosenFirstOfEqual();
        chosenPieceByPiece();
        chosenEighthHouse();
        chosenNoWay();
        chosenNotOpen();
        chosenCostOfNow();
        chosenOfItsTask();
        Check.end();
    }

    private static StrangerHall hallOf(int houses, int coins) {
        StrangerHall hall = new StrangerHall();
        Check.is("P3 task", Check.task(hall, 1000, LONG_TEXT), 0);
        hall.cut(0, 10);
        for (int h = 0; h < houses; h++) {
            hall.house(coins);
        }
        return hall;
    }

    private static void bid(StrangerHall hall, int piece, int house, int price, int hours, int pledge) {
        Check.is("P24 of " + house + " for " + piece, hall.bid(0, piece, house, price, hours, pledge), 1);
    }

    /** Of the told pieces, from the lowest on, the houses that are due; each piece has 10 steps. */
    private static void chosenIs(String what, StrangerHall hall, int bits, int hours, long cost, int... houses) {
        Check.is("P26 " + what + ": cost", hall.chosen(0, bits, hours, -1), cost);
        int i = 0;
        for (int piece = 0; piece < 20; piece++) {
            int due = (bits >> piece & 1) == 1 ? houses[i++] : -1;
            Check.is("P26 " + what + ": house for " + piece, hall.chosen(0, bits, hours, piece), due);
        }
    }

    private static void noWay(String what, StrangerHall hall, int bits, int hours) {
        for (int piece = -1; piece < 20; piece += 5) {
            Check.is("P26 " + what + ": " + piece, hall.chosen(0, bits, hours, piece), -2);
        }
    }

    /** "if it is its SUM, KEPT counts, else LIES" */
    private static void trialCounts() {
        StrangerHall hall = hallOf(2, 100);
        int sum = hall.sum(0, 7);
        Check.is("P23 its sum", hall.trial(0, 0, 7, sum), true);
        Check.is("P15 kept", hall.told(0, 1), 1);
        Check.is("P15 no lie", hall.told(0, 2), 0);
        int[] others = {sum + 1, sum - 1, sum ^ MIN, 0, -sum, hall.sum(0, 6), hall.sum(0, 8)};
        for (int i = 0; i < others.length; i++) {
            Check.is("P23 not its sum", hall.trial(0, 0, 7, others[i]), false);
            Check.is("P15 lies", hall.told(0, 2), i + 1);
        }
        Check.is("P15 kept still", hall.told(0, 1), 1);
        Check.is("P23 its sum again", hall.trial(0, 0, 7, sum), true);
        Check.is("P15 kept twice", hall.told(0, 1), 2);
        Check.is("P15 not the other house", hall.told(1, 1) + hall.told(1, 2), 0);
    }

    /** STEPS 0 to 20,000, also behind LENGTH, and of a task that isn't cut, never ends or has no step */
    private static void trialAtEachEnd() {
        StrangerHall hall = hallOf(1, 0);
        Check.task(hall, 0, "while 1{a=a+1;}");
        hall.task(0, 0);
        for (int task = 0; task < 3; task++) {
            Check.is("P23 at 0", hall.trial(0, task, 0, hall.sum(task, 0)), true);
            Check.is("P23 at 20000", hall.trial(0, task, 20000, hall.sum(task, 20000)), true);
        }
        Check.is("P23 behind LENGTH", hall.trial(0, 0, 20000, hall.sum(0, 198)), true);
        Check.is("P23 ahead of it", hall.trial(0, 0, 197, hall.sum(0, 198)), false);
        Check.is("P15 kept", hall.told(0, 1), 7);
        Check.is("P15 lies", hall.told(0, 2), 1);
    }

    private static void trialPaysNothing() {
        StrangerHall hall = hallOf(1, 100);
        hall.trial(0, 0, 0, hall.sum(0, 0));
        hall.trial(0, 0, 0, 1);
        Check.is("P15 coins", hall.told(0, 0), 100);
        Check.is("P31 chest", hall.count(3), 0);
        Check.is("P31 held", hall.count(4), 0);
        Check.is("P32 purse", hall.purse(0), 1000);
        Check.is("P20 the piece is open", hall.piece(0, 0, 0), 0);
    }

    /** "price or pledge not 0 to 1,000,000, or the hours"; "hours (1 to 1,000)" */
    private static void bidBounds() {
        StrangerHall hall = hallOf(2, 100);
        int[] wrong = {-1, 1000001, MIN, MAX};
        for (int coins : wrong) {
            Check.noValue("P24 price " + coins, () -> hall.bid(0, 0, 0, coins, 1, 0));
            Check.noValue("P24 pledge " + coins, () -> hall.bid(0, 0, 0, 0, 1, coins));
        }
        int[] noHours = {0, 1001, -1, MIN, MAX};
        for (int hours : noHours) {
            Check.noValue("P24 hours " + hours, () -> hall.bid(0, 0, 0, 0, hours, 0));
        }
        Check.is("P31 no bid", hall.count(5), 0);
        Check.is("P25 no bid", hall.cost(0, 0, 0), -1);
        bid(hall, 0, 0, 0, 1, 0);
        bid(hall, 0, 1, 1000000, 1000, 1000000);
        Check.is("P31 two bids", hall.count(5), 2);
    }

    /** A BID holds no coins, so neither PURSE nor COINS bound it. */
    private static void bidAsksForNoCoins() {
        StrangerHall hall = hallOf(1, 0);
        bid(hall, 0, 0, 1001, 1, 1);
        Check.is("P31 held", hall.count(4), 0);
        Check.is("P25 its cost", hall.cost(0, 0, 0), 100100 + 500);
        noWay("more pledges than coins", hall, 1, 1);
        bid(hall, 0, 0, 1001, 1, 0);
        chosenIs("a price above the purse", hall, 1, 1, 100600, 0);
    }

    /** "one each (told anew)": price, hours and pledge are the new ones */
    private static void bidToldAnew() {
        StrangerHall hall = hallOf(2, 100);
        bid(hall, 3, 1, 10, 10, 10);
        bid(hall, 3, 1, 5, 20, 100);
        Check.is("P31 one bid", hall.count(5), 1);
        Check.is("P25 the new price", hall.cost(0, 3, 1), 1000);
        noWay("the new hours", hall, 8, 19);
        chosenIs("the new hours", hall, 8, 20, 1000, 1);
        bid(hall, 3, 1, 5, 20, 101);
        noWay("the new pledge", hall, 8, 20);
        bid(hall, 3, 1, 7, 1, 0);
        chosenIs("less again", hall, 8, 1, 1200, 1);
        Check.is("P31 one bid still", hall.count(5), 1);
        bid(hall, 3, 0, 7, 1, 0);
        bid(hall, 4, 1, 7, 1, 0);
        Check.is("P31 another house, another piece", hall.count(5), 3);
        Check.is("P25 its own", hall.cost(0, 3, 1), 1200);
    }

    private static void bidOfEachHouse() {
        StrangerHall hall = hallOf(8, 100);
        for (int h = 0; h < 8; h++) {
            bid(hall, 19, h, 10 * h, 1, 0);
        }
        for (int h = 0; h < 8; h++) {
            Check.is("P25 of house " + h, hall.cost(0, 19, h), 1000 * h + 400);
        }
        Check.is("P31 eight", hall.count(5), 8);
    }

    /** "BIDS, 24 at most"; "-2: there are 24" */
    private static void bidsMost24() {
        StrangerHall hall = hallOf(8, 100);
        for (int i = 0; i < 24; i++) {
            Check.is("P31 bids", hall.count(5), i);
            bid(hall, i % 3, i / 3, i, 1, 0);
        }
        Check.is("P24 a 25th", hall.bid(0, 3, 0, 1, 1, 0), -2);
        Check.is("P25 it is none", hall.cost(0, 3, 0), -1);
        Check.is("P31 24 still", hall.count(5), 24);
        Check.is("P24 one told anew", hall.bid(0, 2, 7, 1, 1, 0), 1);
        Check.is("P25 told anew", hall.cost(0, 2, 7), 600);
        Check.is("P31 24 still", hall.count(5), 24);
        Check.is("P17 given", hall.give(0, 1, 0, 1, 1, 1), 1);
        Check.is("P31 8 are gone", hall.count(5), 16);
        for (int i = 0; i < 8; i++) {
            bid(hall, 3, i, 1, 1, 0);
        }
        Check.is("P24 a 25th again", hall.bid(0, 4, 0, 1, 1, 0), -2);
        Check.is("P24 not open, with 24", hall.bid(0, 1, 0, 1, 1, 0), -1);
        Check.is("P31 24", hall.count(5), 24);
    }

    private static void bidsMost24OverTasks() {
        StrangerHall hall = hallOf(4, 100);
        Check.task(hall, 1000, LONG_TEXT);
        hall.cut(1, 10);
        for (int i = 0; i < 24; i++) {
            Check.is("P24 bid " + i, hall.bid(i % 2, i / 8, i / 2 % 4, i, 1, 0), 1);
        }
        Check.is("P24 a 25th for task 0", hall.bid(0, 9, 0, 1, 1, 0), -2);
        Check.is("P24 a 25th for task 1", hall.bid(1, 9, 0, 1, 1, 0), -2);
        Check.is("P25 of task 0", hall.cost(0, 2, 3), 2200 + 500);
        Check.is("P25 of task 1", hall.cost(1, 2, 3), 2300 + 500);
        hall.give(1, 2, 0, 1, 1, 1);
        Check.is("P31 four are gone", hall.count(5), 20);
        Check.is("P25 of task 0 still", hall.cost(0, 2, 3), 2700);
        Check.is("P25 of task 1 gone", hall.cost(1, 2, 3), -1);
    }

    /** "(BIDS for a PIECE are gone when it is GIVEN.)" */
    private static void bidsGoneWhenGiven() {
        StrangerHall hall = hallOf(3, 100);
        for (int h = 0; h < 3; h++) {
            bid(hall, 4, h, 1, 1, 0);
            bid(hall, 5, h, 1, 1, 0);
        }
        Check.is("P17 no such price", hall.give(0, 4, 0, 1001, 0, 1), -2);
        Check.is("P17 no such pledge", hall.give(0, 4, 0, 0, 101, 1), -3);
        Check.noValue("P17 no such ticks", () -> hall.give(0, 4, 0, 0, 0, 0));
        Check.is("P31 none is gone by that", hall.count(5), 6);
        hall.give(0, 4, 1, 9, 9, 1);
        for (int h = 0; h < 3; h++) {
            Check.is("P25 gone " + h, hall.cost(0, 4, h), -1);
            Check.is("P25 for another piece " + h, hall.cost(0, 5, h), 600);
        }
        Check.is("P31 three", hall.count(5), 3);
        hall.give(0, 6, 1, 9, 9, 1);
        Check.is("P31 none for one without", hall.count(5), 3);
    }

    private static void bidsBehindVoid() {
        StrangerHall hall = hallOf(3, 100);
        bid(hall, 0, 2, 1, 1, 0);
        hall.give(0, 0, 0, 10, 10, 9);
        hall.claim(0, 0, 1);
        hall.doubt(0, 0, 1, 2);
        hall.tick(5);
        Check.is("P20 void", hall.piece(0, 0, 0), 0);
        Check.is("P25 gone still", hall.cost(0, 0, 2), -1);
        Check.is("P31 none", hall.count(5), 0);
        bid(hall, 0, 2, 1, 1, 0);
        Check.is("P25 one again", hall.cost(0, 0, 2), 600);
        Check.is("P31 one", hall.count(5), 1);
    }

    /** "100 times the price; to that the PIECE's STEPS times 100 times (LIES and 1), by (KEPT, LIES and 2), cut" */
    private static void costOfNothingKnown() {
        StrangerHall hall = hallOf(1, 100);
        bid(hall, 0, 0, 0, 1, 0);
        bid(hall, 1, 0, 1, 1000, 1000000);
        bid(hall, 19, 0, 1, 1, 0);
        Check.is("P25 no price", hall.cost(0, 0, 0), 500);
        Check.is("P25 neither hours nor pledge count", hall.cost(0, 1, 0), 600);
        Check.is("P25 the steps of the last one", hall.cost(0, 19, 0), 500);
    }

    private static void costOfKeptAndLies() {
        StrangerHall hall = hallOf(2, 100);
        bid(hall, 0, 0, 7, 1, 0);
        bid(hall, 19, 0, 7, 1, 0);
        bid(hall, 0, 1, 7, 1, 0);
        int sum = hall.sum(0, 9);
        int kept = 0;
        int lies = 0;
        for (int i = 0; i < 40; i++) {
            boolean right = i % 3 == 1;
            hall.trial(0, 0, 9, right ? sum : sum + 1);
            kept += right ? 1 : 0;
            lies += right ? 0 : 1;
            Check.is("P25 kept " + kept + ", lies " + lies, hall.cost(0, 0, 0), 700 + 1000 * (lies + 1) / (kept + lies + 2));
            Check.is("P25 of 8 steps", hall.cost(0, 19, 0), 700 + 800 * (lies + 1) / (kept + lies + 2));
        }
        Check.is("P25 of another house", hall.cost(0, 0, 1), 1200);
        StrangerHall good = hallOf(1, 100);
        bid(good, 0, 0, 0, 1, 0);
        int[] dues = {500, 333, 250, 200, 166, 142, 125, 111, 100, 90};
        for (int due : dues) {
            Check.is("P25 kept alone", good.cost(0, 0, 0), due);
            good.trial(0, 0, 9, sum);
        }
        StrangerHall bad = hallOf(1, 100);
        bid(bad, 0, 0, 0, 1, 0);
        int[] lied = {500, 666, 750, 800, 833, 857, 875, 888, 900, 909};
        for (int due : lied) {
            Check.is("P25 lies alone", bad.cost(0, 0, 0), due);
            bad.trial(0, 0, 9, sum + 1);
        }
    }

    /** KEPT and LIES of pieces count as those of trials do. */
    private static void costOfPieces() {
        StrangerHall hall = hallOf(1, 100);
        bid(hall, 9, 0, 0, 1, 0);
        hall.give(0, 0, 0, 1, 1, 1);
        hall.claim(0, 0, 1);
        hall.give(0, 1, 0, 1, 1, 1);
        hall.tick(2);
        Check.is("P25 one lie by late", hall.cost(0, 9, 0), 666);
        hall.tick(8);
        Check.is("P25 one kept, too", hall.cost(0, 9, 0), 500);
    }

    private static void costIsGreat() {
        StrangerHall hall = new StrangerHall();
        Check.task(hall, 0, "while a<m[0]{a=a+1;}" + "b=m[0];".repeat(5));
        hall.memory(0, 0, 1998);
        Check.is("P13 20000 steps", hall.cut(0, 20000), 1);
        hall.house(0);
        hall.bid(0, 0, 0, 1000000, 1, 0);
        Check.is("P25 nothing known", hall.cost(0, 0, 0), 100000000 + 1000000);
        for (int i = 1; i <= 200; i++) {
            hall.trial(0, 0, 20000, 1);
        }
        Check.is("P25 200 lies", hall.cost(0, 0, 0), 100000000L + 2000000L * 201 / 202);
        Check.is("P26 200 lies", hall.chosen(0, 1, 1, -1), 100000000L + 2000000L * 201 / 202);
    }

    /** "COST of a BID; NONE: there is none" */
    private static void costWithout() {
        StrangerHall hall = hallOf(2, 100);
        bid(hall, 3, 0, 1, 1, 0);
        Check.is("P25 of another house", hall.cost(0, 3, 1), -1);
        Check.is("P25 for another piece", hall.cost(0, 4, 0), -1);
        Check.is("P25 for the piece ahead", hall.cost(0, 2, 0), -1);
    }

    /** "bits that tell no PIECE, or not 1 to 5" */
    private static void chosenBits() {
        StrangerHall hall = hallOf(1, 100);
        int[] wrong = {0, 1 << 20, 1 << 20 | 1, MIN, -1, MAX, 63, 63 << 14, 0xFFFFF, MIN | 1};
        for (int bits : wrong) {
            Check.noValue("P26 bits " + bits, () -> hall.chosen(0, bits, 1, -1));
        }
        int[] good = {1, 1 << 19, 3, 31, 31 << 15, 1 | 1 << 5 | 1 << 10 | 1 << 15 | 1 << 19};
        for (int bits : good) {
            Check.is("P26 bits " + bits + " without bids", hall.chosen(0, bits, 1, -1), -2);
        }
        StrangerHall few = new StrangerHall();
        Check.task(few, 0, LONG_TEXT);
        Check.noValue("P26 not cut", () -> few.chosen(0, 1, 1, -1));
        Check.noValue("P26 no bits, not cut", () -> few.chosen(0, 0, 1, -1));
        few.cut(0, 70);
        Check.is("P26 the last of three", few.chosen(0, 4, 1, -1), -2);
        Check.noValue("P26 the fourth of three", () -> few.chosen(0, 8, 1, -1));
        Check.noValue("P26 one that is and one that is not", () -> few.chosen(0, 9, 1, -1));
    }

    /** "hours not 1 to 5,000" */
    private static void chosenHoursBounds() {
        StrangerHall hall = hallOf(1, 100);
        bid(hall, 0, 0, 0, 1, 0);
        int[] wrong = {0, 5001, -1, MIN, MAX};
        for (int hours : wrong) {
            Check.noValue("P26 hours " + hours, () -> hall.chosen(0, 1, hours, -1));
        }
        Check.is("P26 one hour", hall.chosen(0, 1, 1, -1), 500);
        Check.is("P26 5000 hours", hall.chosen(0, 1, 5000, -1), 500);
    }

    /** "what -1 the COST together, or the HOUSE for PIECE what (0 to 19; NONE: not one of these)"; "or another what" */
    private static void chosenWhat() {
        StrangerHall hall = hallOf(2, 100);
        bid(hall, 19, 1, 0, 1, 0);
        int[] wrong = {-2, 20, MIN, MAX};
        for (int what : wrong) {
            Check.noValue("P26 what " + what, () -> hall.chosen(0, 1 << 19, 1, what));
            Check.noValue("P26 what " + what + " without a way", () -> hall.chosen(0, 1, 1, what));
        }
        Check.is("P26 what 19", hall.chosen(0, 1 << 19, 1, 19), 1);
        Check.is("P26 what 18", hall.chosen(0, 1 << 19, 1, 18), -1);
        Check.is("P26 what 0", hall.chosen(0, 1 << 19, 1, 0), -1);
        StrangerHall few = new StrangerHall();
        Check.task(few, 0, LONG_TEXT);
        few.cut(0, 20000);
        few.house(0);
        few.bid(0, 0, 0, 0, 1, 0);
        Check.is("P26 what 19 of one piece", few.chosen(0, 1, 1, 19), -1);
    }

    private static void chosenOne() {
        StrangerHall hall = hallOf(3, 100);
        bid(hall, 7, 0, 9, 1, 0);
        bid(hall, 7, 1, 8, 1, 0);
        bid(hall, 7, 2, 10, 1, 0);
        chosenIs("the least of three", hall, 1 << 7, 1, 1300, 1);
    }

    private static void chosenFive() {
        StrangerHall hall = hallOf(5, 100);
        int[] pieces = {1, 4, 9, 16, 18};
        for (int i = 0; i < 5; i++) {
            bid(hall, pieces[i], i, i, 1, 0);
            bid(hall, pieces[i], (i + 1) % 5, i + 1, 1, 0);
        }
        chosenIs("five pieces", hall, 1 << 1 | 1 << 4 | 1 << 9 | 1 << 16 | 1 << 18, 1, 1000 + 2500, 0, 1, 2, 3, 4);
        chosenIs("four of them", hall, 1 << 4 | 1 << 9 | 1 << 16 | 1 << 18, 1, 1000 + 2000, 1, 2, 3, 4);
    }

    /** "so that no HOUSE has more hours than these" */
    private static void chosenHoursTogether() {
        StrangerHall hall = hallOf(2, 100);
        for (int p = 0; p < 5; p++) {
            bid(hall, p, 0, 0, 1000, 0);
        }
        chosenIs("5000 hours", hall, 31, 5000, 2500, 0, 0, 0, 0, 0);
        noWay("4999 hours", hall, 31, 4999);
        bid(hall, 4, 1, 90, 1000, 0);
        chosenIs("another one with less than 5000", hall, 31, 4999, 11500, 0, 0, 0, 0, 1);
        chosenIs("4000 hours of each", hall, 31, 4000, 11500, 0, 0, 0, 0, 1);
        noWay("3999 hours", hall, 31, 3999);
        chosenIs("one piece of 1000", hall, 1, 1000, 500, 0);
        noWay("999 hours", hall, 1, 999);
    }

    /** "nor more pledges than COINS together" */
    private static void chosenPledgesTogether() {
        StrangerHall hall = hallOf(2, 100);
        bid(hall, 0, 0, 0, 1, 60);
        bid(hall, 1, 0, 0, 1, 40);
        bid(hall, 1, 1, 5, 1, 100);
        chosenIs("just its coins", hall, 3, 9, 1000, 0, 0);
        bid(hall, 1, 0, 0, 1, 41);
        chosenIs("one coin more", hall, 3, 9, 1500, 0, 1);
        bid(hall, 1, 1, 5, 1, 101);
        noWay("one coin more for the other one", hall, 3, 9);
        chosenIs("each alone", hall, 2, 9, 500, 0);
        bid(hall, 1, 0, 0, 1, 101);
        noWay("more than its coins alone", hall, 2, 9);
    }

    private static void chosenCoinsOfNow() {
        StrangerHall hall = hallOf(2, 100);
        bid(hall, 0, 0, 0, 1, 100);
        bid(hall, 0, 1, 5, 1, 0);
        chosenIs("all its coins", hall, 1, 1, 500, 0);
        hall.give(0, 9, 0, 0, 1, 1);
        chosenIs("one coin is held", hall, 1, 1, 1000, 1);
        hall.claim(0, 9, 1);
        hall.tick(10);
        chosenIs("it is back", hall, 1, 1, 500, 0);
    }

    /** "of least COST together": not the least for each alone */
    private static void chosenLeastTogether() {
        StrangerHall hall = hallOf(2, 100);
        bid(hall, 0, 0, 1, 5, 0);
        bid(hall, 0, 1, 2, 5, 0);
        bid(hall, 1, 0, 1, 5, 0);
        bid(hall, 1, 1, 9, 5, 0);
        chosenIs("both by one", hall, 3, 10, 1200, 0, 0);
        chosenIs("the first goes without its least", hall, 3, 9, 1300, 1, 0);
        bid(hall, 0, 1, 9, 5, 0);
        bid(hall, 1, 1, 2, 5, 0);
        chosenIs("the second goes without its least", hall, 3, 9, 1300, 0, 1);
    }

    /** "of these the first: PIECE by PIECE by the HOUSES' numbers" */
    private static void chosenFirstOfEqual() {
        StrangerHall hall = hallOf(3, 100);
        for (int h = 2; h >= 0; h--) {
            bid(hall, 0, h, 3, 5, 0);
        }
        chosenIs("three alike", hall, 1, 5, 800, 0);
        bid(hall, 0, 0, 4, 5, 0);
        chosenIs("two alike", hall, 1, 5, 800, 1);
        bid(hall, 0, 1, 3, 6, 0);
        chosenIs("the first has too many hours", hall, 1, 5, 800, 2);
        StrangerHall two = hallOf(2, 100);
        bid(two, 0, 0, 5, 5, 0);
        bid(two, 0, 1, 4, 5, 0);
        bid(two, 1, 0, 4, 5, 0);
        bid(two, 1, 1, 3, 5, 0);
        chosenIs("5 and 3 ahead of 4 and 4", two, 3, 5, 1800, 0, 1);
        chosenIs("both by the second", two, 3, 10, 1700, 1, 1);
        bid(two, 0, 0, 4, 5, 0);
        bid(two, 0, 1, 5, 5, 0);
        bid(two, 1, 0, 3, 5, 0);
        bid(two, 1, 1, 4, 5, 0);
        chosenIs("4 and 4 ahead of 5 and 3", two, 3, 5, 1800, 0, 1);
    }

    /** The lowest piece decides first, however the bids were told. */
    private static void chosenPieceByPiece() {
        StrangerHall hall = hallOf(3, 100);
        for (int p = 5; p >= 3; p--) {
            for (int h = 2; h >= 0; h--) {
                bid(hall, p, h, 2, 5, 0);
            }
        }
        chosenIs("all alike", hall, 56, 15, 2100, 0, 0, 0);
        chosenIs("two of each at most", hall, 56, 10, 2100, 0, 0, 1);
        chosenIs("one of each", hall, 56, 5, 2100, 0, 1, 2);
        bid(hall, 3, 0, 3, 5, 0);
        chosenIs("0 is dear for 3", hall, 56, 10, 2100, 1, 0, 0);
        chosenIs("0 is dear for 3, one of each", hall, 56, 5, 2100, 1, 0, 2);
        bid(hall, 4, 0, 2, 6, 0);
        chosenIs("0 has too many hours for 4", hall, 56, 5, 2100, 1, 2, 0);
    }

    private static void chosenEighthHouse() {
        StrangerHall hall = hallOf(8, 100);
        for (int p = 0; p < 3; p++) {
            for (int h = 0; h < 8; h++) {
                bid(hall, p, h, 20 - h, 1, 10 * h);
            }
        }
        chosenIs("pledges of 70", hall, 7, 1, (13 + 14 + 15) * 100 + 1500, 5, 6, 7);
        chosenIs("one of 70 alone", hall, 7, 3, (13 + 14 + 15) * 100 + 1500, 5, 6, 7);
        chosenIs("one piece", hall, 4, 1, 1300 + 500, 7);
        StrangerHall alone = hallOf(8, 100);
        bid(alone, 0, 7, 1, 1, 100);
        chosenIs("no other one", alone, 1, 1, 600, 7);
    }

    /** "None, if there is no such way"; "-2: there is no way" */
    private static void chosenNoWay() {
        StrangerHall hall = hallOf(2, 100);
        noWay("without bids", hall, 1, 5000);
        bid(hall, 0, 0, 0, 2, 0);
        noWay("one piece is without", hall, 3, 5000);
        noWay("the other one is without", hall, 2, 5000);
        noWay("too few hours", hall, 1, 1);
        bid(hall, 1, 0, 0, 2, 0);
        noWay("too few hours for both", hall, 3, 3);
        chosenIs("enough for both", hall, 3, 4, 1000, 0, 0);
        StrangerHall none = hallOf(0, 0);
        noWay("without houses", none, 31, 5000);
    }

    /** BIDS are for OPEN ones: one that isn't has none. */
    private static void chosenNotOpen() {
        StrangerHall hall = hallOf(2, 100);
        bid(hall, 0, 0, 0, 1, 0);
        bid(hall, 1, 0, 0, 1, 0);
        chosenIs("both open", hall, 3, 9, 1000, 0, 0);
        hall.give(0, 1, 1, 0, 0, 1);
        noWay("one is given", hall, 3, 9);
        chosenIs("the other one", hall, 1, 9, 500, 0);
    }

    private static void chosenCostOfNow() {
        StrangerHall hall = hallOf(2, 100);
        bid(hall, 0, 0, 0, 1, 0);
        bid(hall, 0, 1, 1, 1, 0);
        chosenIs("nothing known", hall, 1, 1, 500, 0);
        hall.trial(0, 0, 0, 1);
        chosenIs("one lie", hall, 1, 1, 600, 1);
        int sum = hall.sum(0, 0);
        hall.trial(0, 0, 0, sum);
        chosenIs("one lie, one kept", hall, 1, 1, 500, 0);
    }

    private static void chosenOfItsTask() {
        StrangerHall hall = hallOf(2, 100);
        Check.task(hall, 0, LONG_TEXT);
        hall.cut(1, 20);
        hall.bid(0, 0, 0, 7, 1, 0);
        hall.bid(1, 0, 1, 2, 1, 0);
        Check.is("P26 of task 0", hall.chosen(0, 1, 1, 0), 0);
        Check.is("P26 of task 1", hall.chosen(1, 1, 1, 0), 1);
        Check.is("P26 20 steps", hall.chosen(1, 1, 1, -1), 1200);
        Check.noValue("P26 task 1 has 10 pieces", () -> hall.chosen(1, 1 << 10, 1, -1));
        Check.is("P26 task 0 has 20", hall.chosen(0, 1 << 10, 1, -1), -2);
    }
}
