/** Promises 23 to 26: trials, bids, their cost and who is chosen. */
public final class BidTest {
    /** 39 steps: pieces of 10, 10, 10 and 9 steps. */
    private static final String TEXT = "a=3;while a>0{out a;a=a-1;}";

    public static void main(String[] args) {
        trial();
        bid();
        bidsGone();
        most();
        cost();
        chosenLeast();
        chosenHours();
        chosenPledges();
        chosenTies();
        chosenEdges();
        Check.end();
    }

    private static StrangerHall hallOf(int houses) {
        StrangerHall hall = new StrangerHall();
        Check.is("task", Check.task(hall, 1000, TEXT), 0);
        hall.cut(0, 10);
        for (int h = 0; h < houses; h++) {
            hall.house(1000);
        }
        return hall;
    }

    private static void trial() {
        StrangerHall hall = hallOf(2);
        int sum = hall.sum(0, 17);
        Check.is("P23 right", hall.trial(1, 0, 17, sum), true);
        Check.is("P23 kept", hall.told(1, 1), 1);
        Check.is("P23 wrong", hall.trial(1, 0, 17, sum + 1), false);
        Check.is("P23 lies", hall.told(1, 2), 1);
        Check.is("P23 kept still", hall.told(1, 1), 1);
        Check.is("P23 behind the end", hall.trial(1, 0, 20000, hall.sum(0, 39)), true);
        Check.is("P23 the other house", hall.told(0, 1) + hall.told(0, 2), 0);
        Check.is("P23 its coins", hall.told(1, 0), 1000);
        Check.noPlace("P23 house", () -> hall.trial(2, 0, -1, 0) ? 1 : 0);
        Check.noPlace("P23 task", () -> hall.trial(0, 1, -1, 0) ? 1 : 0);
        Check.noValue("P23 steps -1", () -> hall.trial(0, 0, -1, 0) ? 1 : 0);
        Check.noValue("P23 steps 20001", () -> hall.trial(0, 0, 20001, 0) ? 1 : 0);
        Check.is("P23 refused", hall.told(0, 1) + hall.told(0, 2), 0);
    }

    private static void bid() {
        StrangerHall hall = hallOf(2);
        Check.is("P24 bid", hall.bid(0, 1, 0, 1000000, 1000, 1000000), 1);
        Check.is("P24 the least", hall.bid(0, 1, 1, 0, 1, 0), 1);
        Check.is("P31 count(5)", hall.count(5), 2);
        Check.is("P24 anew", hall.bid(0, 1, 0, 7, 1, 0), 1);
        Check.is("P31 count(5) still", hall.count(5), 2);
        Check.is("P25 cost anew", hall.cost(0, 1, 0), 700 + 500);
        Check.is("P24 nothing is held", hall.count(4), 0);
        Check.noPlace("P24 task", () -> hall.bid(1, 0, 0, -1, 1, 0));
        Check.noPlace("P24 piece", () -> hall.bid(0, 4, 0, -1, 1, 0));
        Check.noPlace("P24 house", () -> hall.bid(0, 0, 2, -1, 1, 0));
        Check.noValue("P24 price -1", () -> hall.bid(0, 0, 0, -1, 1, 0));
        Check.noValue("P24 price too high", () -> hall.bid(0, 0, 0, 1000001, 1, 0));
        Check.noValue("P24 pledge -1", () -> hall.bid(0, 0, 0, 0, 1, -1));
        Check.noValue("P24 pledge too high", () -> hall.bid(0, 0, 0, 0, 1, 1000001));
        Check.noValue("P24 hours 0", () -> hall.bid(0, 0, 0, 0, 0, 0));
        Check.noValue("P24 hours 1001", () -> hall.bid(0, 0, 0, 0, 1001, 0));
        hall.give(0, 0, 0, 1, 1, 1);
        Check.is("P24 not open", hall.bid(0, 0, 1, 1, 1, 1), -1);
        Check.noValue("P24 not open, hours 0", () -> hall.bid(0, 0, 1, 1, 0, 1));
        Check.is("P25 none", hall.cost(0, 0, 1), -1);
    }

    private static void bidsGone() {
        StrangerHall hall = hallOf(3);
        for (int h = 0; h < 3; h++) {
            hall.bid(0, 0, h, 1, 1, 1);
            hall.bid(0, 1, h, 1, 1, 1);
        }
        Check.is("P17 refused", hall.give(0, 0, 0, 1001, 1, 1), -2);
        Check.is("P31 six bids", hall.count(5), 6);
        hall.give(0, 0, 0, 1, 1, 1);
        Check.is("P31 three are gone", hall.count(5), 3);
        Check.is("P25 gone", hall.cost(0, 0, 1), -1);
        Check.is("P25 of the other piece", hall.cost(0, 1, 1) > 0, true);
        hall.tick(2);
        Check.is("P20 late", hall.piece(0, 0, 0), 0);
        Check.is("P25 gone still", hall.cost(0, 0, 1), -1);
        Check.is("P26 no bids", hall.chosen(0, 1, 5000, -1), -2);
        Check.is("P24 open again", hall.bid(0, 0, 1, 1, 1, 1), 1);
        Check.is("P31 four", hall.count(5), 4);
    }

    private static void most() {
        StrangerHall hall = hallOf(8);
        for (int i = 0; i < 24; i++) {
            Check.is("P24 bid " + i, hall.bid(0, i / 8, i % 8, 1, 1, 1), 1);
        }
        Check.is("P24 there are 24", hall.bid(0, 3, 0, 1, 1, 1), -2);
        Check.noValue("P24 there are 24, hours 0", () -> hall.bid(0, 3, 0, 1, 0, 1));
        Check.is("P24 one told anew", hall.bid(0, 2, 7, 2, 1, 1), 1);
        Check.is("P31 24", hall.count(5), 24);
        hall.give(0, 0, 0, 1, 1, 1);
        Check.is("P31 16", hall.count(5), 16);
        Check.is("P24 room again", hall.bid(0, 3, 0, 1, 1, 1), 1);
        Check.is("P24 not open comes first", hall.bid(0, 0, 0, 1, 1, 1), -1);
    }

    private static void cost() {
        StrangerHall hall = hallOf(2);
        hall.bid(0, 0, 0, 5, 1, 1);
        hall.bid(0, 3, 0, 5, 1, 1);
        Check.is("P25 10 steps, nothing known", hall.cost(0, 0, 0), 500 + 500);
        Check.is("P25 9 steps", hall.cost(0, 3, 0), 500 + 450);
        hall.trial(0, 0, 0, 1);
        Check.is("P25 one lie", hall.cost(0, 0, 0), 500 + 666);
        hall.trial(0, 0, 0, hall.sum(0, 0));
        hall.trial(0, 0, 0, hall.sum(0, 0));
        Check.is("P25 two kept, one lie", hall.cost(0, 0, 0), 500 + 400);
        hall.bid(0, 0, 1, 1000000, 1, 1);
        Check.is("P25 dear", hall.cost(0, 0, 1), 100000500L);
        Check.is("P25 none", hall.cost(0, 1, 0), -1);
        Check.noPlace("P25 task", () -> hall.cost(1, 0, 0));
        Check.noPlace("P25 piece", () -> hall.cost(0, 4, 0));
        Check.noPlace("P25 house", () -> hall.cost(0, 0, 2));
        Check.noPlace("P25 house -1", () -> hall.cost(0, 0, -1));
        for (int p = 0; p < 4; p++) {
            hall.bid(0, p, 1, 1000000, 1, 1);
        }
        Check.is("P26 dear together", hall.chosen(0, 14, 5000, -1), 100000500L + 100000500L + 500 + 360);
    }

    private static void chosenIs(String what, StrangerHall hall, int pieces, int hours, long cost, int... houses) {
        Check.is("P26 " + what + ": cost", hall.chosen(0, pieces, hours, -1), cost);
        for (int p = 0; p < houses.length; p++) {
            Check.is("P26 " + what + ": house for " + p, hall.chosen(0, pieces, hours, p), houses[p]);
        }
    }

    private static void chosenLeast() {
        StrangerHall hall = hallOf(3);
        hall.bid(0, 0, 0, 9, 1, 0);
        hall.bid(0, 0, 1, 4, 1, 0);
        hall.bid(0, 0, 2, 5, 1, 0);
        hall.bid(0, 2, 2, 8, 1, 0);
        chosenIs("one piece", hall, 1, 10, 900, 1, -1, -1);
        chosenIs("two pieces", hall, 5, 10, 900 + 1300, 1, -1, 2, -1);
        Check.is("P26 a piece without bids", hall.chosen(0, 2, 10, -1), -2);
        Check.is("P26 no way, piece 1", hall.chosen(0, 2, 10, 1), -2);
        Check.is("P26 no such piece", hall.chosen(0, 5, 10, 19), -1);
        Check.is("P26 nothing is given", hall.piece(0, 0, 0), 0);
        Check.is("P26 no bid is gone", hall.count(5), 4);
    }

    private static void chosenHours() {
        StrangerHall hall = hallOf(2);
        for (int p = 0; p < 3; p++) {
            hall.bid(0, p, 0, 1, 3, 0);
            hall.bid(0, p, 1, 2 + p, 3, 0);
        }
        chosenIs("9 hours", hall, 7, 9, 1800, 0, 0, 0);
        chosenIs("8 hours", hall, 7, 8, 1900, 1, 0, 0);
        chosenIs("6 hours", hall, 7, 6, 1900, 1, 0, 0);
        Check.is("P26 5 hours", hall.chosen(0, 7, 5, -1), -2);
        chosenIs("5 hours, two pieces", hall, 6, 5, 600 + 800, -1, 1, 0);
        Check.is("P26 2 hours", hall.chosen(0, 1, 2, 0), -2);
    }

    private static void chosenPledges() {
        StrangerHall hall = hallOf(2);
        hall.bid(0, 0, 0, 1, 1, 500);
        hall.bid(0, 1, 0, 1, 1, 500);
        hall.bid(0, 0, 1, 5, 1, 0);
        hall.bid(0, 1, 1, 5, 1, 0);
        chosenIs("all its coins", hall, 3, 10, 1200, 0, 0);
        hall.bid(0, 1, 0, 1, 1, 501);
        chosenIs("more than its coins", hall, 3, 10, 600 + 1000, 0, 1);
        hall.bid(0, 0, 0, 1, 1, 1001);
        chosenIs("one more than its coins", hall, 1, 10, 1000, 1);
        hall.bid(0, 0, 0, 9, 1, 1000);
        hall.bid(0, 0, 1, 5, 1, 0);
        hall.bid(0, 1, 0, 1, 1, 1000);
        chosenIs("each its own", hall, 3, 10, 1000 + 600, 1, 0);
        hall.give(0, 3, 0, 1, 500, 9);
        chosenIs("coins of now", hall, 2, 10, 1000, -1, 1);
    }

    private static void chosenTies() {
        StrangerHall hall = hallOf(3);
        for (int h = 2; h >= 0; h--) {
            hall.bid(0, 0, h, 2, 5, 0);
            hall.bid(0, 1, h, 2, 5, 0);
        }
        chosenIs("the first of all", hall, 3, 10, 1400, 0, 0);
        chosenIs("5 hours", hall, 3, 5, 1400, 0, 1);
        hall.bid(0, 1, 0, 2, 6, 0);
        hall.bid(0, 1, 1, 2, 11, 0);
        chosenIs("by pieces first", hall, 3, 10, 1400, 0, 2);
    }

    private static void chosenEdges() {
        StrangerHall hall = new StrangerHall();
        Check.task(hall, 10, TEXT);
        hall.house(10);
        Check.noValue("P26 not cut", () -> hall.chosen(0, 1, 1, -1));
        Check.noValue("P26 not cut, no bits", () -> hall.chosen(0, 0, 1, -1));
        hall.cut(0, 4 + 6);
        Check.noPlace("P26 task", () -> hall.chosen(1, 0, 0, -2));
        Check.noValue("P26 no bits", () -> hall.chosen(0, 0, 1, -1));
        Check.noValue("P26 piece 4", () -> hall.chosen(0, 16, 1, -1));
        Check.noValue("P26 piece 31", () -> hall.chosen(0, Integer.MIN_VALUE, 1, -1));
        Check.noValue("P26 hours 0", () -> hall.chosen(0, 1, 0, -1));
        Check.noValue("P26 hours 5001", () -> hall.chosen(0, 1, 5001, -1));
        Check.noValue("P26 what -2", () -> hall.chosen(0, 1, 1, -2));
        Check.noValue("P26 what 20", () -> hall.chosen(0, 1, 1, 20));
        Check.is("P26 without bids", hall.chosen(0, 15, 5000, 19), -2);
        StrangerHall many = new StrangerHall();
        Check.task(many, 10, "a=3;".repeat(99));
        many.cut(0, 10);
        many.house(10);
        for (int p = 15; p < 20; p++) {
            many.bid(0, p, 0, 1, 1000, 2);
        }
        Check.noValue("P26 six pieces", () -> many.chosen(0, 63, 1, -1));
        Check.is("P26 five pieces", many.chosen(0, 31 << 15, 5000, -1), 4 * 600 + 500);
        Check.is("P26 the last piece", many.chosen(0, 31 << 15, 5000, 19), 0);
        Check.is("P26 not the one ahead", many.chosen(0, 31 << 15, 5000, 14), -1);
        Check.is("P26 4999 hours", many.chosen(0, 31 << 15, 4999, -1), -2);
    }
}
