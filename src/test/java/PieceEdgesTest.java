/** Edges of terms 3 and promises 13 to 22, sentence by sentence: pieces, houses, rules, claims, quarrels and ticks. */
public final class PieceEdgesTest {
    private static final int MIN = Integer.MIN_VALUE;
    private static final int MAX = Integer.MAX_VALUE;
    private static final int OPEN = 0;
    private static final int GIVEN = 1;
    private static final int CLAIMED = 2;
    private static final int QUARREL = 3;
    private static final int KEPT = 4;
    private static final int WAITING = 5;
    /** 198 steps: 20 pieces of 10, the last one of 8. */
    private static final String LONG_TEXT = "a=3;".repeat(99);
    /** 10 steps for each a below m[0], then 5. */
    private static final String ROUNDS = "while a<m[0]{a=a+1;}";

    public static void main(String[] args) {
        cutBounds();
        cutCounts();
        cutNeverEnds();
        cutOnce();
        whereEachPieceIs();
        houseBounds();
        toldBounds();
        ruleBounds();
        ruleIsRefused();
        windowOf1And100();
        turnOf1And100();
        shareIsCut();
        giveBounds();
        giveHasThePrice();
        giveHasThePledge();
        givenTillItsTick();
        lateEach();
        lateIsNotVoid();
        claimNumbers();
        callsInEachState();
        whatOfEachState();
        whatBehindVoidAndLate();
        whatBounds();
        doubtNumbers();
        doubtPledge();
        startOfTheFirst();
        startOfTheNext();
        middles();
        alikeAndNot();
        oneStepApart();
        twoStepsApart();
        judged();
        judgedByAFalseStart();
        judgedAtOnce();
        answersInOrder();
        silentBehindTurn();
        silentBehindTheLast();
        silentPays();
        quarrelHoldsTheWindow();
        staysByAQuarrel();
        keptTwenty();
        keptToAHole();
        voidTwenty();
        voidStops();
        voidOfOneThatWaits();
        voidOfOneDoubtedBefore();
        voidEachByItsOwnQuarrel();
        orderInOneTick();
        tickByTick();
        earlierTicksFirst();
        ruleOfNow();
        tickBounds();
        lastTick();
        manyTasks();
        eighthHouse();
        Check.end();
    }

    private static StrangerHall hallOf(String text, int steps) {
        StrangerHall hall = new StrangerHall();
        Check.is("P3 task", Check.task(hall, 1000, text), 0);
        hall.cut(0, steps);
        for (int h = 0; h < 3; h++) {
            hall.house(1000);
        }
        return hall;
    }

    private static StrangerHall rounds(int rounds, String rest) {
        StrangerHall hall = new StrangerHall();
        Check.is("P3 task", Check.task(hall, 1000, ROUNDS + rest), 0);
        hall.memory(0, 0, rounds);
        return hall;
    }

    private static int state(StrangerHall hall, int piece) {
        return hall.piece(0, piece, 0);
    }

    private static void houseIs(String what, StrangerHall hall, int house, int coins, int kept, int lies) {
        Check.is(what + ": coins of " + house, hall.told(house, 0), coins);
        Check.is(what + ": kept of " + house, hall.told(house, 1), kept);
        Check.is(what + ": lies of " + house, hall.told(house, 2), lies);
    }

    private static void coinsAre(String what, StrangerHall hall, int purse, int chest, int held) {
        Check.is(what + ": purse", hall.purse(0), purse);
        Check.is(what + ": chest", hall.count(3), chest);
        Check.is(what + ": held", hall.count(4), held);
        Check.is(what + ": all coins", hall.count(7), 4000);
    }

    private static void claim(StrangerHall hall, int piece, int house, int number) {
        Check.is("P17 piece " + piece, hall.give(0, piece, house, 100, 31, 900), 1);
        Check.is("P18 piece " + piece, hall.claim(0, piece, number), 1);
    }

    /** Piece 1 of 20 is in such a state, of house 0, claimed by 55, doubted by house 1. */
    private static StrangerHall hallWith(int state) {
        StrangerHall hall = hallOf(LONG_TEXT, 10);
        if (state == QUARREL || state == KEPT || state == CLAIMED) {
            claim(hall, 0, 0, 44);
        }
        if (state != OPEN) {
            hall.give(0, 1, 0, 100, 31, 900);
        }
        if (state > GIVEN) {
            hall.claim(0, 1, 55);
        }
        if (state == QUARREL) {
            hall.doubt(0, 1, 1, 56);
        }
        if (state == KEPT || state == WAITING) {
            hall.tick(10);
        }
        Check.is("P20 state " + state, state(hall, 1), state);
        return hall;
    }

    /** "CUT by so many STEPS (10 to 20,000)" */
    private static void cutBounds() {
        StrangerHall hall = rounds(1, "");
        int[] wrong = {9, 20001, 0, -1, -10, MIN, MAX};
        for (int steps : wrong) {
            Check.noValue("P13 by " + steps, () -> hall.cut(0, steps));
        }
        Check.is("P6 not cut by that", hall.memory(0, 0, 1), 1);
        Check.is("P13 by 10", hall.cut(0, 10), 2);
        Check.is("P13 by 20000", rounds(1, "").cut(0, 20000), 1);
    }

    /** "how many PIECES"; "-3: there would be none, or more than 20" */
    private static void cutCounts() {
        Check.is("P13 195 steps by 10", rounds(19, "").cut(0, 10), 20);
        Check.is("P13 200 steps by 10", rounds(19, "b=1;b=m[0];").cut(0, 10), 20);
        Check.is("P13 201 steps by 10", rounds(19, "b=1;b=1;b=1;").cut(0, 10), -3);
        Check.is("P13 201 steps by 11", rounds(19, "b=1;b=1;b=1;").cut(0, 11), 19);
        Check.is("P13 5 steps by 10", rounds(0, "").cut(0, 10), 1);
        Check.is("P13 10 steps by 10", rounds(0, "b=1;b=m[0];").cut(0, 10), 1);
        Check.is("P13 11 steps by 10", rounds(0, "b=1;b=1;b=1;").cut(0, 10), 2);
        Check.is("P13 20000 steps by 1000", rounds(1998, "b=m[0];".repeat(5)).cut(0, 1000), 20);
        Check.is("P13 20000 steps by 999", rounds(1998, "b=m[0];".repeat(5)).cut(0, 999), -3);
        Check.is("P13 19985 steps by 1000", rounds(1998, "").cut(0, 1000), 20);
        Check.is("P13 20000 steps by 19999", rounds(1998, "b=m[0];".repeat(5)).cut(0, 19999), 2);
        StrangerHall empty = new StrangerHall();
        empty.task(0, 0);
        Check.is("P13 none", empty.cut(0, 10), -3);
        Check.is("P13 none by 20000", empty.cut(0, 20000), -3);
        Check.noPlace("P20 no piece by that", () -> empty.piece(0, 0, 0));
    }

    /** "-2: it never ends", ahead of more than 20 */
    private static void cutNeverEnds() {
        StrangerHall hall = rounds(1999, "b=1;b=m[0];b=1;");
        Check.is("P7 20002 steps", hall.length(0), -1);
        Check.is("P13 by 10", hall.cut(0, 10), -2);
        Check.is("P13 by 20000", hall.cut(0, 20000), -2);
        hall.memory(0, 0, 1998);
        Check.is("P13 19992 steps by 20000", hall.cut(0, 20000), 1);
    }

    /** "-1: it is CUT", however it was cut */
    private static void cutOnce() {
        StrangerHall hall = rounds(0, "");
        Check.is("P13 one piece", hall.cut(0, 20000), 1);
        Check.is("P13 again", hall.cut(0, 20000), -1);
        Check.is("P13 by others", hall.cut(0, 10), -1);
        Check.is("P20 one piece still", hall.piece(0, 0, 3), 5);
        Check.noPlace("P20 no other", () -> hall.piece(0, 1, 3));
        Check.task(hall, 0, "a=1;");
        Check.is("P13 another task", hall.cut(1, 10), 1);
    }

    /** "from j times these to the next such, the last one to LENGTH"; "PIECES of a TASK, 20 at most" */
    private static void whereEachPieceIs() {
        StrangerHall hall = hallOf(LONG_TEXT, 10);
        for (int p = 0; p < 20; p++) {
            Check.is("P20 first of " + p, hall.piece(0, p, 2), 10 * p);
            Check.is("P20 last of " + p, hall.piece(0, p, 3), p == 19 ? 198 : 10 * p + 10);
        }
        Check.noPlace("P20 piece 20", () -> hall.piece(0, 20, 0));
        Check.noPlace("P20 piece MIN", () -> hall.piece(0, MIN, 0));
        Check.noPlace("P20 piece MAX", () -> hall.piece(0, MAX, 0));
        StrangerHall exact = rounds(1998, "b=m[0];".repeat(5));
        exact.cut(0, 1000);
        Check.is("P20 the last one's first", exact.piece(0, 19, 2), 19000);
        Check.is("P20 the last one's last", exact.piece(0, 19, 3), 20000);
        StrangerHall one = rounds(0, "");
        one.cut(0, 20000);
        Check.is("P20 the only one's first", one.piece(0, 0, 2), 0);
        Check.is("P20 the only one's last", one.piece(0, 0, 3), 5);
    }

    /** "HOUSES, numbered from 0 on, 8 at most: COINS"; "the COINS are not 0 to 1,000,000" */
    private static void houseBounds() {
        StrangerHall hall = new StrangerHall();
        int[] wrong = {-1, 1000001, MIN, MAX};
        for (int coins : wrong) {
            Check.noValue("P14 coins " + coins, () -> hall.house(coins));
        }
        Check.is("P31 no house", hall.count(2), 0);
        Check.is("P14 no coins", hall.house(0), 0);
        for (int h = 1; h < 7; h++) {
            Check.is("P14 house " + h, hall.house(h), h);
        }
        Check.is("P14 the eighth", hall.house(1000000), 7);
        Check.is("P14 there are 8", hall.house(0), -1);
        Check.is("P14 there are 8 still", hall.house(1000000), -1);
        for (int coins : wrong) {
            Check.noValue("P14 coins " + coins + " where there are 8", () -> hall.house(coins));
        }
        Check.is("P31 eight", hall.count(2), 8);
        Check.is("P31 their coins", hall.count(7), 1000021);
        houseIs("P15", hall, 0, 0, 0, 0);
        houseIs("P15", hall, 7, 1000000, 0, 0);
    }

    private static void toldBounds() {
        StrangerHall hall = hallOf(LONG_TEXT, 10);
        int[] places = {-1, 3, 8, MIN, MAX};
        for (int house : places) {
            Check.noPlace("P15 house " + house, () -> hall.told(house, 0));
        }
        int[] wrong = {-1, 3, MIN, MAX};
        for (int what : wrong) {
            Check.noValue("P15 what " + what, () -> hall.told(2, what));
        }
    }

    /** "WINDOW (1 to 100 TICKS; 10 at first), TURN (1 to 100; 5), SHARE (0 to 100 hundredths; 50)" */
    private static void ruleBounds() {
        StrangerHall hall = new StrangerHall();
        Check.is("P16 WINDOW at first", hall.rule(0, 1), 10);
        Check.is("P16 TURN at first", hall.rule(1, 1), 5);
        Check.is("P16 SHARE at first", hall.rule(2, 0), 50);
        Check.is("P16 the least WINDOW", hall.rule(0, 100), 1);
        Check.is("P16 the least TURN", hall.rule(1, 100), 1);
        Check.is("P16 the least SHARE", hall.rule(2, 100), 0);
        Check.is("P16 the greatest WINDOW", hall.rule(0, 7), 100);
        Check.is("P16 the greatest TURN", hall.rule(1, 8), 100);
        Check.is("P16 the greatest SHARE", hall.rule(2, 9), 100);
        Check.is("P16 WINDOW alone", hall.rule(0, 7), 7);
        Check.is("P16 TURN alone", hall.rule(1, 8), 8);
        Check.is("P16 SHARE alone", hall.rule(2, 9), 9);
    }

    /** "another what, or v is none such" */
    private static void ruleIsRefused() {
        StrangerHall hall = new StrangerHall();
        int[][] wrong = {{0, 0}, {0, 101}, {0, -1}, {0, MIN}, {0, MAX}, {1, 0}, {1, 101}, {1, -1}, {1, MIN}, {1, MAX},
            {2, -1}, {2, 101}, {2, MIN}, {2, MAX}, {-1, 5}, {3, 5}, {MIN, 5}, {MAX, 5}};
        for (int[] rule : wrong) {
            Check.noValue("P16 rule " + rule[0] + " of " + rule[1], () -> hall.rule(rule[0], rule[1]));
        }
        Check.is("P16 WINDOW as it was", hall.rule(0, 1), 10);
        Check.is("P16 TURN as it was", hall.rule(1, 1), 5);
        Check.is("P16 SHARE as it was", hall.rule(2, 1), 50);
    }

    /** "If nobody doubts one that is CLAIMED till WINDOW TICKS behind the claim" */
    private static void windowOf1And100() {
        int[] windows = {1, 2, 10, 99, 100};
        for (int window : windows) {
            StrangerHall hall = hallOf(LONG_TEXT, 10);
            hall.rule(0, window);
            hall.tick(3);
            hall.give(0, 0, 0, 100, 31, 900);
            hall.tick(5);
            hall.claim(0, 0, 1);
            hall.tick(window - 1);
            Check.is("P22 one tick ahead of a WINDOW of " + window, state(hall, 0), CLAIMED);
            coinsAre("P22 one tick ahead", hall, 900, 0, 131);
            hall.tick(1);
            Check.is("P22 behind a WINDOW of " + window, state(hall, 0), KEPT);
            houseIs("P22 kept", hall, 0, 1100, 1, 0);
            coinsAre("P22 kept", hall, 900, 0, 0);
        }
    }

    /** "TURN TICKS behind the one in which both were asked last (or it began)" */
    private static void turnOf1And100() {
        int[] turns = {1, 2, 5, 99, 100};
        for (int turn : turns) {
            StrangerHall hall = hallOf(LONG_TEXT, 10);
            hall.rule(1, turn);
            hall.rule(0, 100);
            claim(hall, 0, 0, 1);
            hall.tick(7);
            hall.doubt(0, 0, 1, 2);
            hall.tick(turn - 1);
            Check.is("P22 one tick ahead of a TURN of " + turn, state(hall, 0), QUARREL);
            Check.is("P21 it can be told still", hall.answer(0, 0, false, 1), 1);
            hall.tick(1);
            Check.is("P22 behind a TURN of " + turn, state(hall, 0), OPEN);
            houseIs("P22 the one who told", hall, 1, 1015, 0, 0);
        }
    }

    /** "of its pledge SHARE hundredths, cut, go to the one that is RIGHT, the rest to the CHEST" */
    private static void shareIsCut() {
        int[][] cases = {{0, 50}, {1, 50}, {1, 99}, {1, 100}, {3, 33}, {3, 34}, {99, 1}, {100, 1}, {101, 1}, {999, 0}, {999, 100}, {1000, 50}};
        for (int[] one : cases) {
            StrangerHall hall = hallOf(LONG_TEXT, 10);
            hall.rule(2, one[1]);
            hall.give(0, 0, 0, 5, one[0], 9);
            hall.claim(0, 0, 1);
            hall.doubt(0, 0, 1, 2);
            hall.answer(0, 0, false, 1);
            hall.tick(5);
            int share = one[0] * one[1] / 100;
            String what = "P22 SHARE " + one[1] + " of " + one[0];
            houseIs(what, hall, 1, 1000 + share, 0, 0);
            houseIs(what, hall, 0, 1000 - one[0], 0, 1);
            coinsAre(what, hall, 1000, one[0] - share, 0);
        }
        StrangerHall hall = new StrangerHall();
        Check.task(hall, 0, LONG_TEXT);
        hall.cut(0, 10);
        hall.house(1000000);
        hall.house(1000000);
        hall.rule(2, 99);
        hall.give(0, 0, 0, 0, 1000000, 9);
        hall.claim(0, 0, 1);
        hall.doubt(0, 0, 1, 2);
        hall.answer(0, 0, true, 1);
        hall.tick(5);
        houseIs("P22 the greatest pledge", hall, 0, 1990000, 1, 0);
        houseIs("P22 the greatest pledge", hall, 1, 0, 0, 1);
        Check.is("P31 the chest", hall.count(3), 10000);
    }

    /** "price or pledge not 0 to 1,000,000, or the TICKS"; "so many TICKS (1 to 1,000) from now" */
    private static void giveBounds() {
        StrangerHall hall = new StrangerHall();
        Check.task(hall, 1000000, LONG_TEXT);
        hall.cut(0, 10);
        hall.house(1000000);
        int[] wrong = {-1, 1000001, MIN, MAX};
        for (int coins : wrong) {
            Check.noValue("P17 price " + coins, () -> hall.give(0, 0, 0, coins, 0, 1));
            Check.noValue("P17 pledge " + coins, () -> hall.give(0, 0, 0, 0, coins, 1));
        }
        int[] noTicks = {0, 1001, -1, MIN, MAX};
        for (int ticks : noTicks) {
            Check.noValue("P17 ticks " + ticks, () -> hall.give(0, 0, 0, 0, 0, ticks));
        }
        Check.is("P20 open still", state(hall, 0), OPEN);
        Check.is("P17 the least", hall.give(0, 0, 0, 0, 0, 1), 1);
        Check.is("P17 the greatest", hall.give(0, 1, 0, 1000000, 1000000, 1000), 1);
        Check.is("P32 nothing is left", hall.purse(0), 0);
        Check.is("P15 nothing is left", hall.told(0, 0), 0);
        Check.is("P31 held", hall.count(4), 2000000);
        Check.is("P17 nothing for nothing", hall.give(0, 2, 0, 0, 0, 1), 1);
        Check.is("P17 no coin of the purse", hall.give(0, 3, 0, 1, 0, 1), -2);
        Check.is("P17 no coin of the house", hall.give(0, 3, 0, 0, 1, 1), -3);
    }

    /** "-2 the PURSE has not the price" */
    private static void giveHasThePrice() {
        StrangerHall hall = hallOf(LONG_TEXT, 10);
        Check.is("P17 one more than the purse", hall.give(0, 0, 0, 1001, 0, 1), -2);
        Check.is("P17 all of the purse", hall.give(0, 0, 0, 1000, 0, 1), 1);
        hall.tick(2);
        Check.is("P22 the price is back", hall.purse(0), 1000);
        hall.give(0, 0, 0, 600, 0, 900);
        Check.is("P17 one more than is left", hall.give(0, 1, 0, 401, 0, 1), -2);
        Check.is("P17 what is left", hall.give(0, 1, 0, 400, 0, 1), 1);
        coinsAre("P17", hall, 0, 0, 1000);
    }

    /** "-3 the HOUSE has not the pledge" */
    private static void giveHasThePledge() {
        StrangerHall hall = hallOf(LONG_TEXT, 10);
        Check.is("P17 one more than its coins", hall.give(0, 0, 0, 0, 1001, 1), -3);
        Check.is("P17 all its coins", hall.give(0, 0, 0, 0, 1000, 9), 1);
        Check.is("P17 of another house", hall.give(0, 1, 1, 0, 600, 9), 1);
        Check.is("P17 one more than is left", hall.give(0, 2, 1, 0, 401, 9), -3);
        Check.is("P17 what is left", hall.give(0, 2, 1, 0, 400, 9), 1);
        Check.is("P17 a price is no pledge", hall.give(0, 3, 2, 1000, 0, 9), 1);
        coinsAre("P17", hall, 0, 0, 3000);
    }

    /** "A GIVEN one that isn't CLAIMED till its TICK (at the end of that TICK) is LATE" */
    private static void givenTillItsTick() {
        int[] ticks = {1, 2, 999, 1000};
        for (int till : ticks) {
            StrangerHall hall = hallOf(LONG_TEXT, 10);
            hall.tick(6);
            hall.give(0, 0, 0, 100, 31, till);
            hall.give(0, 1, 0, 100, 31, till);
            hall.tick(till - 1);
            Check.is("P22 ahead of its tick " + till, state(hall, 0), GIVEN);
            hall.tick(1);
            Check.is("P22 at its tick " + till, state(hall, 0), GIVEN);
            Check.is("P18 at its tick " + till, hall.claim(0, 0, 5), 1);
            hall.tick(1);
            Check.is("P22 claimed in time " + till, state(hall, 0), CLAIMED);
            Check.is("P22 late behind " + till, state(hall, 1), OPEN);
            Check.is("P18 too late behind " + till, hall.claim(0, 1, 5), -1);
        }
    }

    /** "LATE: OPEN; the pledge goes to the CHEST, the price back; a LIE is counted" */
    private static void lateEach() {
        StrangerHall hall = hallOf(LONG_TEXT, 10);
        for (int i = 1; i <= 3; i++) {
            hall.give(0, 19, 2, 100, 31, 1);
            coinsAre("P17 held " + i, hall, 900, 31 * (i - 1), 131);
            hall.tick(2);
            houseIs("P22 late " + i, hall, 2, 1000 - 31 * i, 0, i);
            coinsAre("P22 late " + i, hall, 1000, 31 * i, 0);
            Check.is("P20 how often " + i, hall.piece(0, 19, 8), i);
            Check.is("P20 no house " + i, hall.piece(0, 19, 1), -1);
        }
    }

    /** "When a PIECE comes to be VOID, the next one ..": LATE is not VOID. */
    private static void lateIsNotVoid() {
        StrangerHall hall = hallOf(LONG_TEXT, 10);
        hall.give(0, 0, 0, 100, 31, 3);
        claim(hall, 1, 1, 5);
        claim(hall, 2, 1, 6);
        hall.doubt(0, 2, 2, 7);
        hall.tick(4);
        Check.is("P22 late", state(hall, 0), OPEN);
        Check.is("P22 the next is claimed still", state(hall, 1), CLAIMED);
        Check.is("P22 the one behind quarrels still", state(hall, 2), QUARREL);
        StrangerHall other = hallOf(LONG_TEXT, 10);
        other.give(0, 0, 0, 100, 31, 20);
        claim(other, 1, 1, 5);
        other.tick(20);
        Check.is("P22 the next waits", state(other, 1), WAITING);
        other.tick(1);
        Check.is("P22 late", state(other, 0), OPEN);
        Check.is("P22 the next waits still", state(other, 1), WAITING);
        coinsAre("P22 its price is held", other, 900, 31, 100);
    }

    /** "CLAIMED it is by a number", any one */
    private static void claimNumbers() {
        int[] numbers = {0, -1, 1, MIN, MAX};
        for (int number : numbers) {
            StrangerHall hall = hallWith(GIVEN);
            Check.is("P18 claimed by " + number, hall.claim(0, 1, number), 1);
            Check.is("P20 the number", hall.piece(0, 1, 9), number);
            Check.is("P20 claimed", state(hall, 1), CLAIMED);
            coinsAre("P18 nothing is paid", hall, 900, 0, 131);
        }
    }

    /** give, claim, doubt, answer and bid each ask for one state. */
    private static void callsInEachState() {
        for (int state = OPEN; state <= WAITING; state++) {
            String what = " in state " + state;
            Check.is("P17 give" + what, hallWith(state).give(0, 1, 2, 1, 1, 1), state == OPEN ? 1 : -1);
            Check.is("P18 claim" + what, hallWith(state).claim(0, 1, 1), state == GIVEN ? 1 : -1);
            Check.is("P19 doubt" + what, hallWith(state).doubt(0, 1, 2, 1), state == CLAIMED ? 1 : -1);
            Check.is("P21 answer" + what, hallWith(state).answer(0, 1, true, 1), state == QUARREL ? 1 : -1);
            Check.is("P21 answer of the other one" + what, hallWith(state).answer(0, 1, false, 1), state == QUARREL ? 1 : -1);
            Check.is("P24 bid" + what, hallWith(state).bid(0, 1, 2, 1, 1, 1), state == OPEN ? 1 : -1);
        }
    }

    private static void whatIs(String what, StrangerHall hall, int piece, int... due) {
        for (int i = 0; i < 10; i++) {
            Check.is(what + ": what " + i, hall.piece(0, piece, i), due[i]);
        }
    }

    /** "0 what it is .. 1 its HOUSE (NONE: OPEN) .. 9 the number claimed (0 without)" */
    private static void whatOfEachState() {
        whatIs("P20 OPEN", hallWith(OPEN), 1, 0, -1, 10, 20, -1, -1, -1, -1, 0, 0);
        whatIs("P20 GIVEN", hallWith(GIVEN), 1, 1, 0, 10, 20, -1, -1, -1, -1, 0, 0);
        whatIs("P20 CLAIMED", hallWith(CLAIMED), 1, 2, 0, 10, 20, -1, -1, -1, -1, 0, 55);
        whatIs("P20 QUARREL", hallWith(QUARREL), 1, 3, 0, 10, 20, 1, 10, 20, 15, 0, 55);
        whatIs("P20 KEPT", hallWith(KEPT), 1, 4, 0, 10, 20, -1, -1, -1, -1, 0, 55);
        whatIs("P20 WAITING", hallWith(WAITING), 1, 5, 0, 10, 20, -1, -1, -1, -1, 0, 55);
    }

    /** "8 how often it was VOID or LATE" */
    private static void whatBehindVoidAndLate() {
        StrangerHall hall = hallWith(QUARREL);
        hall.tick(5);
        whatIs("P20 VOID", hall, 1, 0, -1, 10, 20, -1, -1, -1, -1, 1, 0);
        hall.give(0, 1, 2, 1, 1, 3);
        whatIs("P20 GIVEN behind VOID", hall, 1, 1, 2, 10, 20, -1, -1, -1, -1, 1, 0);
        hall.tick(4);
        whatIs("P20 LATE behind VOID", hall, 1, 0, -1, 10, 20, -1, -1, -1, -1, 2, 0);
        hall.give(0, 1, 2, 1, 1, 3);
        hall.claim(0, 1, 77);
        whatIs("P20 CLAIMED behind both", hall, 1, 2, 2, 10, 20, -1, -1, -1, -1, 2, 77);
        hall.tick(10);
        whatIs("P20 KEPT behind both", hall, 1, 4, 2, 10, 20, -1, -1, -1, -1, 2, 77);
    }

    private static void whatBounds() {
        StrangerHall hall = hallWith(QUARREL);
        int[] wrong = {-1, 10, MIN, MAX};
        for (int what : wrong) {
            Check.noValue("P20 what " + what, () -> hall.piece(0, 1, what));
        }
    }

    /** "another number" */
    private static void doubtNumbers() {
        int[][] pairs = {{0, 1}, {0, -1}, {MIN, MAX}, {MIN, 0}, {5, 6}, {6, 5}, {-1, 1}, {128, 129}, {1000, 1001}};
        for (int[] pair : pairs) {
            StrangerHall hall = hallOf(LONG_TEXT, 10);
            claim(hall, 0, 0, pair[0]);
            Check.is("P19 alike " + pair[0], hall.doubt(0, 0, 1, pair[0]), -3);
            Check.is("P20 claimed still", state(hall, 0), CLAIMED);
            Check.is("P19 " + pair[1] + " against " + pair[0], hall.doubt(0, 0, 1, pair[1]), 1);
        }
        StrangerHall big = hallOf(LONG_TEXT, 10);
        claim(big, 0, 0, 1000);
        Check.is("P19 alike 1000", big.doubt(0, 0, 1, 1000), -3);
    }

    /** "and the same pledge (held)"; "-5 the HOUSE has not the pledge" */
    private static void doubtPledge() {
        StrangerHall hall = hallOf(LONG_TEXT, 10);
        hall.give(0, 0, 0, 0, 500, 9);
        hall.claim(0, 0, 1);
        hall.give(0, 5, 1, 0, 501, 900);
        Check.is("P19 one coin too few", hall.doubt(0, 0, 1, 2), -5);
        Check.is("P20 claimed still", state(hall, 0), CLAIMED);
        hall.give(0, 6, 2, 0, 500, 900);
        Check.is("P19 just as many", hall.doubt(0, 0, 2, 2), 1);
        Check.is("P15 all are held", hall.told(2, 0), 0);
        coinsAre("P19 held", hall, 1000, 0, 2001);
        StrangerHall nothing = new StrangerHall();
        Check.task(nothing, 0, LONG_TEXT);
        nothing.cut(0, 10);
        nothing.house(0);
        nothing.house(0);
        nothing.give(0, 0, 0, 0, 0, 1);
        nothing.claim(0, 0, 1);
        Check.is("P19 no pledge of no coins", nothing.doubt(0, 0, 1, 2), 1);
    }

    /** Asks both for the middle till it is told to the end; they tell what is true of it, and add theirs. */
    private static int answerBoth(StrangerHall hall, int piece, int claimerAdds, int doubterAdds) {
        int sum = hall.sum(0, hall.piece(0, piece, 7));
        Check.is("P21 the first of both", hall.answer(0, piece, true, sum + claimerAdds), 1);
        return hall.answer(0, piece, false, sum + doubterAdds);
    }

    /** "(of the first PIECE the SUM of STATE 0)" */
    private static void startOfTheFirst() {
        StrangerHall hall = hallOf("a=m[1];", 10);
        claim(hall, 0, 0, hall.sum(0, 3));
        hall.doubt(0, 0, 1, 1);
        Check.is("P20 START", hall.piece(0, 0, 5), 0);
        Check.is("P20 the end is LENGTH", hall.piece(0, 0, 6), 3);
        Check.is("P20 asked", hall.piece(0, 0, 7), 1);
        Check.is("P21 the first half", answerBoth(hall, 0, 0, 1), 2);
        Check.is("P21 judged by a true START", state(hall, 0), KEPT);
        StrangerHall told = new StrangerHall();
        Check.task(told, 1000, "a=m[1];");
        told.memory(0, 1, 77);
        told.cut(0, 10);
        told.house(1000);
        told.house(1000);
        told.give(0, 0, 0, 1, 1, 9);
        told.claim(0, 0, 4);
        told.doubt(0, 0, 1, told.sum(0, 3));
        Check.is("P21 with memory told", answerBoth(told, 0, 1, 0), 2);
        houseIs("P21 doubter", told, 1, 1000, 0, 0);
        houseIs("P21 claimer", told, 0, 999, 0, 1);
    }

    /** "the START is the number told for the PIECE ahead" */
    private static void startOfTheNext() {
        int[] adds = {0, 1};
        int[] pieces = {1, 2, 19};
        for (int piece : pieces) {
            for (int add : adds) {
                StrangerHall hall = hallOf(LONG_TEXT, 10);
                claim(hall, piece - 1, 0, hall.sum(0, 10 * piece) + add);
                claim(hall, piece, 1, hall.sum(0, hall.piece(0, piece, 3)));
                hall.doubt(0, piece, 2, 7);
                Check.is("P20 START of " + piece, hall.piece(0, piece, 5), 10 * piece);
                while (state(hall, piece) == QUARREL && hall.piece(0, piece, 6) - hall.piece(0, piece, 5) > 1) {
                    answerBoth(hall, piece, 0, 1);
                }
                Check.is("P21 by a START that is " + add + " off", state(hall, piece), add == 0 ? WAITING : OPEN);
                houseIs("P21 claimer", hall, 1, add == 0 ? 1015 : 969, 0, add);
                houseIs("P21 doubter", hall, 2, 969, 0, 1);
            }
        }
    }

    /** "(half of both together, cut)" */
    private static void middles() {
        StrangerHall hall = hallWith(QUARREL);
        int[][] steps = {{10, 20, 15}, {10, 15, 12}, {12, 15, 13}, {13, 15, 14}};
        boolean[] alike = {false, true, true, true};
        for (int i = 0; i < steps.length; i++) {
            for (int what = 5; what <= 7; what++) {
                Check.is("P20 what " + what + " at the " + i + "th", hall.piece(0, 1, what), steps[i][what - 5]);
            }
            int due = i == 3 ? 2 : 1;
            Check.is("P21 the " + i + "th", answerBoth(hall, 1, 0, alike[i] ? 0 : 1), due);
        }
        StrangerHall last = hallOf(LONG_TEXT, 10);
        claim(last, 18, 0, 1);
        claim(last, 19, 0, 1);
        last.doubt(0, 19, 1, 2);
        Check.is("P20 between 190 and 198", last.piece(0, 19, 7), 194);
        StrangerHall odd = hallOf("a=3;a=3;a=3;a=3;a=3;b=m[0];", 10);
        claim(odd, 0, 0, 1);
        claim(odd, 1, 0, 1);
        odd.doubt(0, 1, 1, 2);
        Check.is("P20 between 10 and 13", odd.piece(0, 1, 7), 11);
    }

    /** "alike: the middle is the START, with that number; else the middle is the end, with what each told" */
    private static void alikeAndNot() {
        // 12 steps: the quarrel is between 10 and 12, then one step apart.
        String text = "a=3;".repeat(6);
        StrangerHall hall = hallOf(text, 10);
        int ahead = hall.sum(0, 10);
        int middle = hall.sum(0, 11);
        int end = hall.sum(0, 12);
        int[][] tells = {
            // claimed, doubted, the claimer's middle, the other one's, then who is right: 1 the claimer, 2 the other one, 0 none
            {end, 1, middle, middle, 1}, {1, end, middle, middle, 2}, {1, 2, middle, middle, 0},
            {end, 1, 5, 5, 0}, {1, end, 5, 5, 0}, {1, 2, 5, 5, 0},
            {end, 1, middle, 5, 1}, {end, 1, 5, middle, 2}, {1, end, middle, 5, 1}, {1, end, 5, middle, 2},
            {end, 1, 5, 6, 0}, {1, end, 5, 6, 0}, {1, 2, middle, 5, 1}, {1, 2, 5, middle, 2}};
        for (int[] tell : tells) {
            for (int first = 0; first < 2; first++) {
                StrangerHall one = hallOf(text, 10);
                claim(one, 0, 0, ahead);
                claim(one, 1, 1, tell[0]);
                Check.is("P19 two apart", one.doubt(0, 1, 2, tell[1]), 1);
                Check.is("P20 not judged", state(one, 1), QUARREL);
                Check.is("P21 the first", one.answer(0, 1, first == 0, tell[first == 0 ? 2 : 3]), 1);
                Check.is("P20 not judged by one", state(one, 1), QUARREL);
                Check.is("P21 judged", one.answer(0, 1, first != 0, tell[first == 0 ? 3 : 2]), 2);
                String what = "P21 " + java.util.Arrays.toString(tell);
                houseIs(what, one, 1, tell[4] == 1 ? 1015 : 969, 0, tell[4] == 1 ? 0 : 1);
                houseIs(what, one, 2, tell[4] == 2 ? 1015 : 969, 0, tell[4] == 2 ? 0 : 1);
                Check.is(what + ": the piece", state(one, 1), tell[4] == 1 ? WAITING : OPEN);
                coinsAre(what, one, tell[4] == 1 ? 800 : 900, tell[4] == 0 ? 62 : 16, tell[4] == 1 ? 231 : 131);
            }
        }
    }

    /** "When end and START are one STEP apart (perhaps as it begins), it is JUDGED" */
    private static void oneStepApart() {
        StrangerHall hall = hallOf("a=3;a=3;a=3;a=3;b=m[0];", 10);
        Check.is("P7 11 steps", hall.length(0), 11);
        claim(hall, 0, 0, 1);
        claim(hall, 1, 0, 1);
        Check.is("P19 judged at once", hall.doubt(0, 1, 1, 2), 1);
        whatIs("P20 both lied", hall, 1, 0, -1, 10, 11, -1, -1, -1, -1, 1, 0);
        houseIs("P21 claimer", hall, 0, 938, 0, 1);
        houseIs("P21 doubter", hall, 1, 969, 0, 1);
        Check.is("P21 no quarrel", hall.answer(0, 1, true, 1), -1);
        coinsAre("P19 judged at once", hall, 900, 62, 131);
    }

    /** Two steps apart is not one. */
    private static void twoStepsApart() {
        StrangerHall hall = hallOf("a=3;a=3;a=3;a=3;a=3;a=3;", 10);
        claim(hall, 0, 0, 1);
        claim(hall, 1, 0, 1);
        hall.doubt(0, 1, 1, 2);
        whatIs("P20 two apart", hall, 1, 3, 0, 10, 12, 1, 10, 12, 11, 0, 1);
        StrangerHall first = hallOf("a=3;", 10);
        claim(first, 0, 0, 1);
        first.doubt(0, 0, 1, 2);
        whatIs("P20 a piece of two steps", first, 0, 3, 0, 0, 2, 1, 0, 2, 1, 0, 1);
        StrangerHall three = hallOf("a=m[0];", 10);
        claim(three, 0, 0, 1);
        three.doubt(0, 0, 1, 2);
        Check.is("P21 alike at 1", answerBoth(three, 0, 0, 0), 1);
        whatIs("P20 two apart again", three, 0, 3, 0, 0, 3, 1, 1, 3, 2, 0, 1);
        Check.is("P21 judged at last", answerBoth(three, 0, 0, 0), 2);
    }

    /** "who told the SUM at the end is RIGHT, the other one LIES (both, if neither did)" */
    private static void judged() {
        StrangerHall sums = hallOf("a=3;", 10);
        int end = sums.sum(0, 2);
        int[][] tells = {{end, end + 1, 1}, {end, end - 1, 1}, {end + 1, end, 2}, {end + 1, end - 1, 0}, {0, MIN, 0}};
        for (int[] tell : tells) {
            StrangerHall hall = hallOf("a=3;", 10);
            claim(hall, 0, 0, tell[0]);
            hall.doubt(0, 0, 1, tell[1]);
            Check.is("P21 judged", answerBoth(hall, 0, 0, 0), 2);
            houseIs("P21 claimer", hall, 0, tell[2] == 1 ? 1115 : 969, tell[2] == 1 ? 1 : 0, tell[2] == 1 ? 0 : 1);
            houseIs("P21 doubter", hall, 1, tell[2] == 2 ? 1015 : 969, 0, tell[2] == 2 ? 0 : 1);
            coinsAre("P21", hall, tell[2] == 1 ? 900 : 1000, tell[2] == 0 ? 62 : 16, 0);
        }
    }

    /** "if START's number is not the SUM there, both LIE" */
    private static void judgedByAFalseStart() {
        StrangerHall sums = hallOf("a=3;", 10);
        int end = sums.sum(0, 2);
        int[][] tells = {{end, 1}, {1, end}, {1, 2}};
        for (int[] tell : tells) {
            StrangerHall hall = hallOf("a=3;", 10);
            claim(hall, 0, 0, tell[0]);
            hall.doubt(0, 0, 1, tell[1]);
            Check.is("P21 judged", answerBoth(hall, 0, 1, 1), 2);
            houseIs("P21 claimer lies", hall, 0, 969, 0, 1);
            houseIs("P21 doubter lies", hall, 1, 969, 0, 1);
            coinsAre("P21 both pledges go to the chest", hall, 1000, 62, 0);
            Check.is("P21 void", hall.piece(0, 0, 8), 1);
        }
    }

    private static void judgedAtOnce() {
        String text = "a=3;a=3;a=3;a=3;b=m[0];";
        StrangerHall sums = hallOf(text, 10);
        int ahead = sums.sum(0, 10);
        int end = sums.sum(0, 11);
        int[][] tells = {{ahead, end, 5, 1}, {ahead, 5, end, 2}, {ahead, 5, 6, 0}, {ahead + 1, end, 5, 0}, {ahead + 1, 5, end, 0}};
        for (int[] tell : tells) {
            StrangerHall hall = hallOf(text, 10);
            claim(hall, 0, 0, tell[0]);
            claim(hall, 1, 1, tell[1]);
            Check.is("P19 judged at once", hall.doubt(0, 1, 2, tell[2]), 1);
            Check.is("P20 the piece", state(hall, 1), tell[3] == 1 ? WAITING : OPEN);
            houseIs("P19 claimer", hall, 1, tell[3] == 1 ? 1015 : 969, 0, tell[3] == 1 ? 0 : 1);
            houseIs("P19 doubter", hall, 2, tell[3] == 2 ? 1015 : 969, 0, tell[3] == 2 ? 0 : 1);
            Check.is("P20 the one ahead is not judged", state(hall, 0), CLAIMED);
        }
        // The one ahead is kept: the piece is kept at once by a doubt that lies.
        StrangerHall kept = hallOf(text, 10);
        claim(kept, 0, 0, ahead);
        kept.tick(10);
        claim(kept, 1, 1, end);
        Check.is("P19 judged at once", kept.doubt(0, 1, 2, 0), 1);
        Check.is("P20 kept at once", state(kept, 1), KEPT);
        houseIs("P19 claimer", kept, 1, 1115, 1, 0);
    }

    /** "1; 2: it is JUDGED now; -1: there is no QUARREL; -2: it told" */
    private static void answersInOrder() {
        StrangerHall hall = hallWith(QUARREL);
        int[] numbers = {0, MIN, MAX, -1};
        for (int number : numbers) {
            StrangerHall one = hallWith(QUARREL);
            Check.is("P21 any number " + number, one.answer(0, 1, true, number), 1);
            Check.is("P21 alike " + number, one.answer(0, 1, false, number), 1);
            Check.is("P20 START", one.piece(0, 1, 5), 15);
        }
        Check.is("P21 the other one first", hall.answer(0, 1, false, 5), 1);
        Check.is("P21 it told", hall.answer(0, 1, false, 5), -2);
        Check.is("P21 it told, another number", hall.answer(0, 1, false, 6), -2);
        Check.is("P21 the first number counts", hall.answer(0, 1, true, 5), 1);
        Check.is("P20 alike by the first", hall.piece(0, 1, 5), 15);
        Check.is("P21 the next is asked", hall.answer(0, 1, false, 5), 1);
        Check.is("P21 of both", hall.answer(0, 1, true, 6), 1);
        Check.is("P20 not alike", hall.piece(0, 1, 6), 17);
        Check.is("P20 asked", hall.piece(0, 1, 7), 16);
        Check.is("P21 first", hall.answer(0, 1, true, 6), 1);
        Check.is("P21 it told", hall.answer(0, 1, true, 6), -2);
        Check.is("P21 judged", hall.answer(0, 1, false, 7), 2);
        Check.is("P21 no quarrel any more", hall.answer(0, 1, false, 7), -1);
        Check.is("P21 nor for the claimer", hall.answer(0, 1, true, 7), -1);
    }

    /** "who hasn't told is SILENT: it LIES (the other one is RIGHT; both, if both are)" */
    private static void silentBehindTurn() {
        boolean[] truths = {false, true};
        for (boolean claimerTold : truths) {
            for (boolean doubterTold : truths) {
                if (claimerTold && doubterTold) {
                    continue;
                }
                StrangerHall hall = hallWith(QUARREL);
                if (claimerTold) {
                    hall.answer(0, 1, true, 1);
                }
                if (doubterTold) {
                    hall.answer(0, 1, false, 1);
                }
                hall.tick(4);
                Check.is("P22 not silent yet", state(hall, 1), QUARREL);
                hall.tick(1);
                Check.is("P22 the piece", state(hall, 1), claimerTold ? WAITING : OPEN);
                houseIs("P22 claimer, with 31 held for the piece ahead", hall, 0, claimerTold ? 984 : 938, 0, claimerTold ? 0 : 1);
                houseIs("P22 doubter", hall, 1, doubterTold ? 1015 : 969, 0, doubterTold ? 0 : 1);
                coinsAre("P22", hall, claimerTold ? 800 : 900, claimerTold || doubterTold ? 16 : 62, claimerTold ? 231 : 131);
            }
        }
    }

    /** "the one in which both were asked last": one answer alone is no new asking */
    private static void silentBehindTheLast() {
        StrangerHall hall = hallWith(QUARREL);
        hall.rule(0, 100);
        hall.tick(2);
        hall.answer(0, 1, true, 1);
        hall.tick(2);
        hall.answer(0, 1, false, 2);
        // Asked anew at 4, so both may tell till 8.
        hall.tick(4);
        Check.is("P22 asked anew", state(hall, 1), QUARREL);
        Check.is("P21 told in time", hall.answer(0, 1, false, 2), 1);
        Check.is("P21 told in time", hall.answer(0, 1, true, 1), 1);
        // Asked anew at 8; one answer at 12 doesn't help the other one.
        hall.tick(4);
        hall.answer(0, 1, false, 2);
        hall.tick(1);
        Check.is("P22 silent at 13", state(hall, 1), OPEN);
        houseIs("P22 the one who told", hall, 1, 1015, 0, 0);
    }

    /** "If both LIE both pledges go to the CHEST"; "RIGHT has its own back" */
    private static void silentPays() {
        StrangerHall hall = hallOf(LONG_TEXT, 10);
        hall.give(0, 0, 0, 1, 1000, 9);
        hall.claim(0, 0, 1);
        hall.doubt(0, 0, 1, 2);
        coinsAre("P19 all held", hall, 999, 0, 2001);
        hall.tick(5);
        coinsAre("P22 both pledges", hall, 1000, 2000, 0);
        houseIs("P22 claimer", hall, 0, 0, 0, 1);
        houseIs("P22 doubter", hall, 1, 0, 0, 1);
        StrangerHall right = hallOf(LONG_TEXT, 10);
        right.give(0, 0, 0, 1, 1000, 9);
        right.claim(0, 0, 1);
        right.doubt(0, 0, 1, 2);
        right.answer(0, 0, true, 9);
        right.tick(5);
        houseIs("P22 its own, the share and the price", right, 0, 1501, 1, 0);
        coinsAre("P22", right, 999, 500, 0);
    }

    /** A QUARREL isn't kept by the WINDOW of the claim. */
    private static void quarrelHoldsTheWindow() {
        StrangerHall hall = hallOf(LONG_TEXT, 10);
        hall.rule(1, 100);
        claim(hall, 0, 0, 1);
        hall.tick(9);
        Check.is("P19 in the last tick of the window", hall.doubt(0, 0, 1, 2), 1);
        hall.tick(99);
        Check.is("P22 it quarrels still", state(hall, 0), QUARREL);
        hall.tick(1);
        Check.is("P22 silent", state(hall, 0), OPEN);
        StrangerHall late = hallOf(LONG_TEXT, 10);
        claim(late, 0, 0, 1);
        late.tick(10);
        Check.is("P19 behind the window", late.doubt(0, 0, 1, 2), -1);
    }

    /** "If the claimer is RIGHT the PIECE STAYS" */
    private static void staysByAQuarrel() {
        StrangerHall hall = hallWith(QUARREL);
        claim(hall, 2, 2, 66);
        hall.answer(0, 1, true, 5);
        hall.tick(5);
        Check.is("P22 waits, the one ahead is claimed", state(hall, 1), WAITING);
        hall.tick(4);
        Check.is("P22 waits still", state(hall, 1), WAITING);
        hall.tick(1);
        Check.is("P22 kept", state(hall, 0), KEPT);
        Check.is("P22 kept with the one ahead", state(hall, 1), KEPT);
        Check.is("P22 kept behind it in the same tick", state(hall, 2), KEPT);
        houseIs("P22 two prices and a share", hall, 0, 1215, 2, 0);
        houseIs("P22 one price", hall, 2, 1100, 1, 0);
    }

    /** "and if the next one is WAITING, it is KEPT, too, so on" */
    private static void keptTwenty() {
        StrangerHall hall = hallOf(LONG_TEXT, 10);
        for (int p = 0; p < 20; p++) {
            hall.give(0, p, p % 3, 10 + p, 1, 900);
        }
        for (int p = 19; p > 0; p--) {
            hall.claim(0, p, p);
        }
        hall.tick(10);
        for (int p = 1; p < 20; p++) {
            Check.is("P22 waits " + p, state(hall, p), WAITING);
        }
        coinsAre("P22 prices are held still", hall, 610, 0, 391);
        hall.claim(0, 0, 0);
        hall.tick(10);
        for (int p = 0; p < 20; p++) {
            Check.is("P22 kept " + p, state(hall, p), KEPT);
        }
        houseIs("P22 pieces 0, 3 .. 18", hall, 0, 1000 + 70 + 63, 7, 0);
        houseIs("P22 pieces 1, 4 .. 19", hall, 1, 1000 + 70 + 70, 7, 0);
        houseIs("P22 pieces 2, 5 .. 17", hall, 2, 1000 + 60 + 57, 6, 0);
        coinsAre("P22 all is paid", hall, 610, 0, 0);
    }

    /** "else it is WAITING (the price is held still)": behind one that isn't KEPT */
    private static void keptToAHole() {
        StrangerHall hall = hallOf(LONG_TEXT, 10);
        for (int p = 0; p < 5; p++) {
            if (p != 2) {
                claim(hall, p, 0, p);
            }
        }
        hall.tick(10);
        int[] due = {KEPT, KEPT, OPEN, WAITING, WAITING};
        for (int p = 0; p < 5; p++) {
            Check.is("P22 piece " + p, state(hall, p), due[p]);
        }
        claim(hall, 2, 1, 2);
        hall.tick(9);
        Check.is("P22 claimed still", state(hall, 2), CLAIMED);
        Check.is("P22 waits still", state(hall, 3), WAITING);
        hall.tick(1);
        for (int p = 0; p < 5; p++) {
            Check.is("P22 kept " + p, state(hall, p), KEPT);
        }
        houseIs("P22 four", hall, 0, 1400, 4, 0);
        houseIs("P22 one", hall, 1, 1100, 1, 0);
        coinsAre("P22", hall, 500, 0, 0);
    }

    /** "the next one of the TASK, if it is CLAIMED, in a QUARREL or WAITING, is VOID, too, without a fault .. so on" */
    private static void voidTwenty() {
        StrangerHall hall = hallOf(LONG_TEXT, 10);
        hall.rule(1, 100);
        for (int p = 0; p < 20; p++) {
            hall.give(0, p, 0, 10, 5, 900);
        }
        // From 1 on they wait, quarrel and are claimed by turns.
        for (int p = 1; p < 20; p += 3) {
            hall.claim(0, p, p);
        }
        hall.tick(10);
        for (int p = 0; p < 20; p++) {
            hall.claim(0, p, p);
        }
        for (int p = 2; p < 20; p += 3) {
            Check.is("P19 piece " + p, hall.doubt(0, p, 1, 99), 1);
        }
        hall.doubt(0, 0, 2, 99);
        for (int p = 1; p < 20; p++) {
            Check.is("P20 piece " + p, state(hall, p), p % 3 == 1 ? WAITING : p % 3 == 2 ? QUARREL : CLAIMED);
        }
        hall.rule(1, 1);
        // Piece 0 comes first in that tick, and takes all others with it.
        hall.tick(1);
        for (int p = 0; p < 20; p++) {
            Check.is("P22 void " + p, state(hall, p), OPEN);
            Check.is("P20 void once " + p, hall.piece(0, p, 8), 1);
        }
        houseIs("P22 claimer", hall, 0, 995, 0, 1);
        houseIs("P22 who doubted the others", hall, 1, 1000, 0, 0);
        houseIs("P22 who doubted the first", hall, 2, 995, 0, 1);
        coinsAre("P22 all is back", hall, 1000, 10, 0);
    }

    /** It goes on to the first that is neither; OPEN, GIVEN ones and those behind them stay. */
    private static void voidStops() {
        for (int hole = OPEN; hole <= GIVEN; hole++) {
            StrangerHall hall = hallOf(LONG_TEXT, 10);
            claim(hall, 0, 0, 1);
            claim(hall, 1, 0, 2);
            if (hole == GIVEN) {
                hall.give(0, 2, 0, 100, 31, 900);
            }
            claim(hall, 3, 0, 3);
            hall.doubt(0, 0, 1, 5);
            hall.tick(5);
            Check.is("P22 void", state(hall, 0), OPEN);
            Check.is("P22 void behind it", state(hall, 1), OPEN);
            Check.is("P22 the hole", state(hall, 2), hole);
            Check.is("P20 the hole was never void", hall.piece(0, 2, 8), 0);
            Check.is("P22 behind the hole", state(hall, 3), CLAIMED);
            Check.is("P20 never void", hall.piece(0, 3, 8), 0);
        }
        // Those ahead stay, too.
        StrangerHall ahead = hallWith(QUARREL);
        ahead.tick(5);
        Check.is("P22 void", state(ahead, 1), OPEN);
        Check.is("P22 the one ahead", state(ahead, 0), CLAIMED);
        Check.is("P20 never void", ahead.piece(0, 0, 8), 0);
    }

    /** "price and what pledges are held (of both) go back": of one that waits no pledge is held */
    private static void voidOfOneThatWaits() {
        StrangerHall hall = hallWith(QUARREL);
        hall.rule(0, 100);
        hall.answer(0, 1, true, 5);
        hall.tick(5);
        Check.is("P22 waits by a quarrel", state(hall, 1), WAITING);
        houseIs("P22 with 31 held for piece 0", hall, 0, 984, 0, 0);
        houseIs("P22 doubter", hall, 1, 969, 0, 1);
        hall.doubt(0, 0, 2, 5);
        hall.tick(5);
        Check.is("P22 void behind piece 0", state(hall, 1), OPEN);
        houseIs("P22 its pledge was back before", hall, 0, 984, 0, 1);
        houseIs("P22 the former doubter has none back", hall, 1, 969, 0, 1);
        houseIs("P22 the other one of piece 0", hall, 2, 969, 0, 1);
        coinsAre("P22", hall, 1000, 16 + 62, 0);
    }

    /** A quarrel that was over long ago holds no pledge of its doubter. */
    private static void voidOfOneDoubtedBefore() {
        StrangerHall hall = hallWith(QUARREL);
        hall.rule(0, 100);
        hall.tick(5);
        houseIs("P22 doubter", hall, 1, 969, 0, 1);
        claim(hall, 1, 2, 8);
        hall.doubt(0, 0, 1, 5);
        hall.answer(0, 0, false, 5);
        hall.tick(5);
        Check.is("P22 void", state(hall, 0), OPEN);
        Check.is("P22 void, too", state(hall, 1), OPEN);
        houseIs("P22 the former doubter, now right", hall, 1, 984, 0, 1);
        houseIs("P22 its pledge is back", hall, 2, 1000, 0, 0);
        coinsAre("P22", hall, 1000, 62 + 16, 0);
    }

    /** A piece that is void by its own quarrel takes the next one with it, in answer() and doubt(), too. */
    private static void voidEachByItsOwnQuarrel() {
        StrangerHall hall = hallOf("a=3;".repeat(6), 10);
        claim(hall, 0, 0, 5);
        claim(hall, 1, 1, 6);
        hall.doubt(0, 1, 2, 7);
        hall.doubt(0, 0, 2, hall.sum(0, 10));
        while (state(hall, 0) == QUARREL) {
            Check.is("P20 the next quarrels", state(hall, 1), QUARREL);
            answerBoth(hall, 0, 1, 0);
        }
        Check.is("P21 void", state(hall, 0), OPEN);
        Check.is("P21 void, too", state(hall, 1), OPEN);
        houseIs("P21 claimer of 0", hall, 0, 969, 0, 1);
        houseIs("P21 claimer of 1", hall, 1, 1000, 0, 0);
        houseIs("P21 right about 0, its pledge for 1 back", hall, 2, 1015, 0, 0);
        Check.is("P21 no quarrel", hall.answer(0, 1, true, 1), -1);
        // 21 steps: piece 1 of 10, piece 2 of one.
        StrangerHall once = hallOf("a=3;".repeat(9) + "b=m[0];", 10);
        Check.is("P7 21 steps", once.length(0), 21);
        claim(once, 1, 0, 5);
        claim(once, 2, 0, 6);
        Check.is("P19 judged at once", once.doubt(0, 2, 1, 7), 1);
        Check.is("P19 void", state(once, 2), OPEN);
        Check.is("P19 the one ahead stays", state(once, 1), CLAIMED);
    }

    /** "then by TASKS, PIECES": one ahead that is void in a tick comes first. */
    private static void orderInOneTick() {
        StrangerHall hall = hallOf(LONG_TEXT, 10);
        claim(hall, 0, 0, 1);
        claim(hall, 1, 1, 2);
        hall.doubt(0, 1, 2, 5);
        hall.doubt(0, 0, 2, 5);
        hall.tick(5);
        houseIs("P22 claimer of 0", hall, 0, 969, 0, 1);
        houseIs("P22 claimer of 1, without a fault", hall, 1, 1000, 0, 0);
        houseIs("P22 doubter, one lie", hall, 2, 969, 0, 1);
        coinsAre("P22", hall, 1000, 62, 0);
        // One that would stay in that tick is void first.
        StrangerHall stays = hallOf(LONG_TEXT, 10);
        stays.rule(0, 5);
        claim(stays, 0, 0, 1);
        claim(stays, 1, 1, 2);
        stays.doubt(0, 0, 2, 5);
        stays.tick(5);
        Check.is("P20 void once", stays.piece(0, 1, 8), 1);
        houseIs("P22 claimer of 1", stays, 1, 1000, 0, 0);
        // The claimer of 0 is right in the tick in which 1 stays: both are kept.
        StrangerHall kept = hallOf(LONG_TEXT, 10);
        kept.rule(0, 5);
        claim(kept, 0, 0, 1);
        claim(kept, 1, 1, 2);
        kept.doubt(0, 0, 2, 5);
        kept.answer(0, 0, true, 5);
        kept.tick(5);
        Check.is("P22 kept by silence", state(kept, 0), KEPT);
        Check.is("P22 kept behind it", state(kept, 1), KEPT);
        houseIs("P22 kept", kept, 1, 1100, 1, 0);
    }

    /** Many ticks at once are those ticks one by one. */
    private static void tickByTick() {
        int[] jumps = {1, 2, 3, 7, 28};
        for (int jump : jumps) {
            StrangerHall hall = hallOf(LONG_TEXT, 10);
            claim(hall, 0, 0, 1);
            claim(hall, 1, 1, 2);
            hall.doubt(0, 1, 2, 5);
            hall.give(0, 2, 0, 50, 7, 3);
            hall.give(0, 3, 1, 60, 8, 14);
            hall.give(0, 4, 2, 70, 9, 27);
            for (int now = 0; now < 28; now += jump) {
                hall.tick(Math.min(jump, 28 - now));
            }
            // At 4 piece 2 is late, at 5 the quarrel is silent, at 10 piece 0 is kept, at 15 piece 3 is late, at 28 piece 4.
            Check.is("P31 TICK by " + jump, hall.count(0), 28);
            houseIs("P22 by " + jump, hall, 0, 1100 - 7, 1, 1);
            houseIs("P22 by " + jump, hall, 1, 1000 - 31 - 8, 0, 2);
            houseIs("P22 by " + jump, hall, 2, 1000 - 31 - 9, 0, 2);
            coinsAre("P22 by " + jump, hall, 900, 62 + 7 + 8 + 9, 0);
        }
    }

    /** What lapses first counts first, in each task and at both ends of its row of pieces. */
    private static void earlierTicksFirst() {
        int[] jumps = {1, 3, 10};
        for (int task = 0; task < 6; task++) {
            for (int jump : jumps) {
                laterOneLapsesFirst(task, 0, jump);
                laterOneLapsesFirst(task, 18, jump);
            }
        }
    }

    /** The quarrel of the next piece ends with its lies at 5, before that of this piece makes it void at 8. */
    private static void laterOneLapsesFirst(int task, int piece, int jump) {
        StrangerHall hall = sixTasks();
        String what = " in " + task + ", " + piece + ", by " + jump;
        if (piece > 0) {
            hall.give(task, piece - 1, 0, 0, 0, 900);
            hall.claim(task, piece - 1, 1);
        }
        for (int j = piece; j < piece + 2; j++) {
            hall.give(task, j, j - piece, 100, 31, 900);
            hall.claim(task, j, 1);
        }
        hall.doubt(task, piece + 1, 2, 5);
        hall.tick(3);
        hall.doubt(task, piece, 2, 5);
        Check.is("P31 two prices and four pledges" + what, hall.count(4), 324);
        for (int now = 0; now < 10; now += jump) {
            hall.tick(Math.min(jump, 10 - now));
        }
        houseIs("P22 lies at 5" + what, hall, 1, 969, 0, 1);
        houseIs("P22 lies at 5 and 8" + what, hall, 2, 938, 0, 2);
        Check.is("P20 void once" + what, hall.piece(task, piece + 1, 8), 1);
        Check.is("P31 none held" + what, hall.count(4), 0);
        Check.is("P31 the chest" + what, hall.count(3), 124);
    }

    private static StrangerHall sixTasks() {
        StrangerHall hall = new StrangerHall();
        for (int t = 0; t < 6; t++) {
            Check.task(hall, 1000, LONG_TEXT);
            hall.cut(t, 10);
        }
        for (int h = 0; h < 3; h++) {
            hall.house(1000);
        }
        return hall;
    }

    /** "(.. WINDOW, TURN TICKS or more behind)" */
    private static void ruleOfNow() {
        StrangerHall hall = hallOf(LONG_TEXT, 10);
        claim(hall, 0, 0, 1);
        hall.tick(8);
        hall.rule(0, 3);
        Check.is("P22 not by a rule", state(hall, 0), CLAIMED);
        Check.is("P22 no tick goes by", hall.tick(0), 8);
        Check.is("P22 not by no tick", state(hall, 0), CLAIMED);
        Check.is("P22 one tick goes by", hall.tick(1), 9);
        Check.is("P22 nine are more than three", state(hall, 0), KEPT);
        StrangerHall longer = hallOf(LONG_TEXT, 10);
        claim(longer, 0, 0, 1);
        longer.tick(9);
        longer.rule(0, 12);
        longer.tick(2);
        Check.is("P22 not yet by the longer one", state(longer, 0), CLAIMED);
        longer.tick(1);
        Check.is("P22 by the longer one", state(longer, 0), KEPT);
        StrangerHall turn = hallWith(QUARREL);
        turn.tick(4);
        turn.rule(1, 1);
        Check.is("P22 not by a rule", state(turn, 1), QUARREL);
        turn.rule(1, 6);
        turn.tick(1);
        Check.is("P22 not yet by the longer one", state(turn, 1), QUARREL);
        turn.rule(1, 2);
        turn.tick(1);
        Check.is("P22 six are more than two", state(turn, 1), OPEN);
        // By a shorter TURN that of 1 is silent for long, that of 0 at 8: both end in tick 8, piece 0 first.
        int[] jumps = {1, 2, 9};
        for (int jump : jumps) {
            StrangerHall both = hallOf(LONG_TEXT, 10);
            both.rule(0, 100);
            both.rule(1, 10);
            claim(both, 0, 0, 1);
            claim(both, 1, 1, 2);
            both.doubt(0, 1, 2, 5);
            both.tick(5);
            both.doubt(0, 0, 2, 5);
            both.tick(2);
            both.rule(1, 1);
            Check.is("P22 TICK by " + jump, both.tick(jump), 7 + jump);
            houseIs("P22 void at 8 by " + jump, both, 1, 1000, 0, 0);
            houseIs("P22 one lie at 8 by " + jump, both, 2, 969, 0, 1);
        }
    }

    /** "they are not 0 to 1,000" */
    private static void tickBounds() {
        StrangerHall hall = new StrangerHall();
        int[] wrong = {-1, 1001, MIN, MAX};
        for (int ticks : wrong) {
            Check.noValue("P22 ticks " + ticks, () -> hall.tick(ticks));
        }
        Check.is("P31 no tick went by", hall.count(0), 0);
        Check.is("P22 the least", hall.tick(0), 0);
        Check.is("P22 the greatest", hall.tick(1000), 1000);
        Check.is("P22 one", hall.tick(1), 1001);
        Check.is("P31 TICK", hall.count(0), 1001);
    }

    /** "IllegalStateException: it would be above 100,000" */
    private static void lastTick() {
        StrangerHall hall = hallOf(LONG_TEXT, 10);
        for (int i = 1; i <= 99; i++) {
            hall.tick(1000);
        }
        hall.give(0, 0, 0, 100, 31, 999);
        claim(hall, 1, 1, 5);
        hall.give(0, 2, 2, 100, 31, 1000);
        Check.noState("P22 one above", () -> hall.tick(1000) + hall.tick(1));
        Check.is("P22 all but one", hall.count(0), 100000);
        Check.is("P22 late at the last", state(hall, 0), OPEN);
        Check.is("P22 waits", state(hall, 1), WAITING);
        Check.is("P22 given till the last", state(hall, 2), GIVEN);
        Check.noState("P22 one", () -> hall.tick(1));
        Check.noState("P22 a thousand", () -> hall.tick(1000));
        Check.noValue("P22 1001", () -> hall.tick(1001));
        Check.noValue("P22 -1", () -> hall.tick(-1));
        Check.is("P22 none", hall.tick(0), 100000);
        Check.is("P22 given still", state(hall, 2), GIVEN);
        Check.is("P18 claimed at the last", hall.claim(0, 2, 1), 1);
    }

    /** Each of six tasks has its own pieces, and all come due. */
    private static void manyTasks() {
        StrangerHall hall = new StrangerHall();
        for (int t = 0; t < 6; t++) {
            Check.task(hall, 100, LONG_TEXT);
            hall.cut(t, 10);
        }
        hall.house(1000);
        hall.house(1000);
        for (int t = 0; t < 6; t++) {
            hall.give(t, 0, 0, 10, 5, 900);
            hall.claim(t, 0, t);
            hall.give(t, 19, 0, 1, 2, 9 + t);
        }
        hall.doubt(5, 0, 1, 77);
        Check.is("P31 held: in each task both prices and pledges, and the doubter's", hall.count(4), 6 * 18 + 5);
        Check.is("P31 all", hall.count(7), 2600);
        hall.tick(10);
        Check.is("P31 held: for the late ones of 1 to 5", hall.count(4), 15);
        Check.is("P31 all", hall.count(7), 2600);
        for (int t = 0; t < 5; t++) {
            Check.is("P22 kept in " + t, hall.piece(t, 0, 0), KEPT);
            Check.is("P32 purse of " + t, hall.purse(t), t == 0 ? 90 : 89);
        }
        Check.is("P22 void in 5", hall.piece(5, 0, 0), OPEN);
        Check.is("P32 purse of 5", hall.purse(5), 99);
        Check.is("P22 late in 0 alone", hall.piece(0, 19, 8), 1);
        Check.is("P22 not in 1", hall.piece(1, 19, 8), 0);
        hall.tick(5);
        for (int t = 0; t < 6; t++) {
            Check.is("P22 late in " + t, hall.piece(t, 19, 8), 1);
        }
        houseIs("P22", hall, 0, 1000 + 50 - 5 - 12, 5, 7);
        houseIs("P22", hall, 1, 995, 0, 1);
    }

    /** The eighth house has all that others have. */
    private static void eighthHouse() {
        StrangerHall hall = new StrangerHall();
        Check.task(hall, 1000, "a=3;");
        hall.cut(0, 10);
        for (int h = 0; h < 8; h++) {
            hall.house(h == 7 ? 1000 : 50);
        }
        int end = hall.sum(0, 2);
        hall.give(0, 0, 7, 100, 40, 1);
        hall.tick(2);
        houseIs("P22 late", hall, 7, 960, 0, 1);
        hall.give(0, 0, 7, 100, 40, 1);
        hall.claim(0, 0, 5);
        hall.doubt(0, 0, 6, end);
        Check.is("P20 who doubts", hall.piece(0, 0, 4), 6);
        Check.is("P21 judged", answerBoth(hall, 0, 0, 0), 2);
        houseIs("P21 the eighth lies", hall, 7, 920, 0, 2);
        houseIs("P21 the seventh is right", hall, 6, 70, 0, 0);
        hall.give(0, 0, 6, 100, 40, 1);
        hall.claim(0, 0, 5);
        hall.doubt(0, 0, 7, end);
        Check.is("P20 who doubts", hall.piece(0, 0, 4), 7);
        Check.is("P21 judged", answerBoth(hall, 0, 0, 0), 2);
        houseIs("P21 the eighth is right", hall, 7, 940, 0, 2);
        hall.give(0, 0, 7, 100, 40, 1);
        hall.claim(0, 0, end);
        hall.tick(10);
        Check.is("P20 its house", hall.piece(0, 0, 1), 7);
        houseIs("P22 the eighth is kept", hall, 7, 1040, 1, 2);
        Check.is("P31 all coins", hall.count(7), 2350);
    }
}
