/** Promises 13 to 22: pieces, houses, rules, claims, doubts, quarrels and ticks. */
public final class PieceTest {
    /** 198 steps. */
    private static final String LONG_TEXT = "a=3;".repeat(99);
    /** 39 steps: the pieces end at 20 and 39. */
    private static final String SHORT_TEXT = "a=3;while a>0{out a;a=a-1;}";

    public static void main(String[] args) {
        cut();
        houses();
        rules();
        give();
        giveOrder();
        claim();
        late();
        kept();
        waiting();
        doubt();
        doubtAhead();
        halves();
        claimerRight();
        doubterRight();
        bothLie();
        falseStart();
        judgedAtOnce();
        silent();
        share();
        voidChain();
        voidStopsAtGiven();
        lateLeavesNext();
        tickOrder();
        tickEdges();
        pieceEdges();
        Check.end();
    }

    /** A hall with one task, cut, and three houses of 1000 coins each. */
    private static StrangerHall hallOf(String text, int steps) {
        StrangerHall hall = new StrangerHall();
        Check.is("task", Check.task(hall, 1000, text), 0);
        hall.cut(0, steps);
        for (int h = 0; h < 3; h++) {
            hall.house(1000);
        }
        return hall;
    }

    private static int state(StrangerHall hall, int piece) {
        return hall.piece(0, piece, 0);
    }

    private static void houseIs(String what, StrangerHall hall, int house, int coins, int kept, int lies) {
        Check.is(what + ": coins of " + house, hall.told(house, 0), coins);
        Check.is(what + ": kept of " + house, hall.told(house, 1), kept);
        Check.is(what + ": lies of " + house, hall.told(house, 2), lies);
    }

    private static void coinsAre(String what, StrangerHall hall, int purse, int chest, int held) {
        Check.is(what + ": purse", hall.purse(0), purse);
        Check.is(what + ": chest", hall.count(3), chest);
        Check.is(what + ": held", hall.count(4), held);
        Check.is(what + ": all coins", hall.count(7), 4000);
    }

    private static void cut() {
        StrangerHall hall = new StrangerHall();
        Check.task(hall, 0, SHORT_TEXT);
        Check.noValue("P13 steps 9", () -> hall.cut(0, 9));
        Check.noValue("P13 steps 20001", () -> hall.cut(0, 20001));
        Check.noPlace("P13 no task", () -> hall.cut(1, 9));
        Check.noPlace("P20 not cut", () -> hall.piece(0, 0, 0));
        Check.is("P13 cut by 10", hall.cut(0, 10), 4);
        Check.is("P13 cut again", hall.cut(0, 10), -1);
        Check.noValue("P13 cut again, steps 9", () -> hall.cut(0, 9));
        for (int p = 0; p < 4; p++) {
            Check.is("P20 first of " + p, hall.piece(0, p, 2), 10 * p);
            Check.is("P20 last of " + p, hall.piece(0, p, 3), Math.min(39, 10 * p + 10));
        }
        StrangerHall other = new StrangerHall();
        Check.task(other, 0, "");
        Check.is("P13 none", other.cut(0, 10), -3);
        Check.task(other, 0, LONG_TEXT);
        Check.is("P13 one", other.cut(1, 20000), 1);
        Check.is("P20 its last", other.piece(1, 0, 3), 198);
        Check.task(other, 0, "while a<40{a=a+1;}");
        Check.is("P13 364 steps by 18", other.cut(2, 18), -3);
        Check.is("P13 364 steps by 19", other.cut(2, 19), 20);
        Check.task(other, 0, "while 1{}");
        Check.is("P13 never ends", other.cut(3, 20000), -2);
        Check.task(other, 0, "a=1;a=1;a=1;a=1;a=1;");
        Check.is("P13 10 steps by 10", other.cut(4, 10), 1);
    }

    private static void houses() {
        StrangerHall hall = new StrangerHall();
        Check.noValue("P14 coins -1", () -> hall.house(-1));
        Check.noValue("P14 too many coins", () -> hall.house(1000001));
        Check.is("P14 count(2)", hall.count(2), 0);
        for (int h = 0; h < 8; h++) {
            Check.is("P14 house " + h, hall.house(h == 0 ? 1000000 : h), h);
        }
        Check.is("P14 a ninth", hall.house(0), -1);
        Check.noValue("P14 a ninth with coins -1", () -> hall.house(-1));
        Check.is("P31 count(2)", hall.count(2), 8);
        Check.is("P15 coins", hall.told(0, 0), 1000000);
        Check.is("P15 coins of the last", hall.told(7, 0), 7);
        Check.is("P15 kept", hall.told(7, 1), 0);
        Check.is("P15 lies", hall.told(7, 2), 0);
        Check.noPlace("P15 house 8", () -> hall.told(8, 0));
        Check.noPlace("P15 house -1, what 3", () -> hall.told(-1, 3));
        Check.noValue("P15 what 3", () -> hall.told(0, 3));
        Check.noValue("P15 what -1", () -> hall.told(0, -1));
    }

    private static void rules() {
        StrangerHall hall = new StrangerHall();
        int[] first = {10, 5, 50};
        for (int what = 0; what < 3; what++) {
            int rule = what;
            int least = what == 2 ? 0 : 1;
            Check.noValue("P16 rule too low", () -> hall.rule(rule, least - 1));
            Check.noValue("P16 rule too high", () -> hall.rule(rule, 101));
            Check.is("P16 what it was", hall.rule(what, 100), first[what]);
            Check.is("P16 then", hall.rule(what, least), 100);
            Check.is("P16 and then", hall.rule(what, least), least);
        }
        Check.noValue("P16 what 3", () -> hall.rule(3, 5));
        Check.noValue("P16 what -1", () -> hall.rule(-1, 5));
    }

    private static void give() {
        StrangerHall hall = hallOf(SHORT_TEXT, 20);
        Check.is("P17 given", hall.give(0, 1, 2, 300, 200, 7), 1);
        Check.is("P20 given", state(hall, 1), 1);
        Check.is("P20 to its house", hall.piece(0, 1, 1), 2);
        Check.is("P20 who doubts", hall.piece(0, 1, 4), -1);
        Check.is("P20 no number", hall.piece(0, 1, 9), 0);
        houseIs("P17", hall, 2, 800, 0, 0);
        coinsAre("P17", hall, 700, 0, 500);
        Check.is("P17 all of it", hall.give(0, 0, 2, 700, 800, 1000), 1);
        coinsAre("P17 all of it", hall, 0, 0, 2000);
        Check.is("P17 for nothing", hallOf(SHORT_TEXT, 20).give(0, 0, 0, 0, 0, 1), 1);
    }

    private static void giveOrder() {
        StrangerHall hall = hallOf(SHORT_TEXT, 20);
        Check.noPlace("P17 task 1", () -> hall.give(1, 0, 0, -1, 0, 1));
        Check.noPlace("P17 piece 2", () -> hall.give(0, 2, 0, -1, 0, 1));
        Check.noPlace("P17 piece -1", () -> hall.give(0, -1, 0, 0, 0, 1));
        Check.noPlace("P17 house 3", () -> hall.give(0, 0, 3, -1, 0, 1));
        Check.noPlace("P17 house -1", () -> hall.give(0, 0, -1, 0, 0, 1));
        Check.noValue("P17 price -1", () -> hall.give(0, 0, 0, -1, 0, 1));
        Check.noValue("P17 price too high", () -> hall.give(0, 0, 0, 1000001, 0, 1));
        Check.noValue("P17 pledge -1", () -> hall.give(0, 0, 0, 0, -1, 1));
        Check.noValue("P17 pledge too high", () -> hall.give(0, 0, 0, 0, 1000001, 1));
        Check.noValue("P17 ticks 0", () -> hall.give(0, 0, 0, 0, 0, 0));
        Check.noValue("P17 ticks 1001", () -> hall.give(0, 0, 0, 0, 0, 1001));
        Check.is("P17 no such price and pledge", hall.give(0, 0, 0, 1001, 1001, 1), -2);
        Check.is("P17 no such pledge", hall.give(0, 0, 0, 1000, 1001, 1), -3);
        coinsAre("P17 refused", hall, 1000, 0, 0);
        hall.give(0, 0, 0, 1, 1, 1);
        Check.is("P17 not open", hall.give(0, 0, 1, 1001, 1001, 1), -1);
        Check.noValue("P17 not open, ticks 0", () -> hall.give(0, 0, 1, 1, 1, 0));
    }

    private static void claim() {
        StrangerHall hall = hallOf(SHORT_TEXT, 20);
        Check.is("P18 open", hall.claim(0, 0, 5), -1);
        hall.give(0, 0, 0, 10, 20, 3);
        hall.tick(3);
        Check.is("P18 at its tick", hall.claim(0, 0, -5), 1);
        Check.is("P20 claimed", state(hall, 0), 2);
        Check.is("P20 number", hall.piece(0, 0, 9), -5);
        Check.is("P18 again", hall.claim(0, 0, 6), -1);
        Check.is("P20 number still", hall.piece(0, 0, 9), -5);
        coinsAre("P18", hall, 990, 0, 30);
        Check.noPlace("P18 task", () -> hall.claim(1, 0, 0));
        Check.noPlace("P18 piece", () -> hall.claim(0, 2, 0));
    }

    private static void late() {
        StrangerHall hall = hallOf(SHORT_TEXT, 20);
        hall.give(0, 0, 0, 10, 20, 3);
        hall.tick(3);
        Check.is("P22 not late yet", state(hall, 0), 1);
        hall.tick(1);
        Check.is("P22 late", state(hall, 0), 0);
        Check.is("P20 its house", hall.piece(0, 0, 1), -1);
        Check.is("P20 how often late", hall.piece(0, 0, 8), 1);
        houseIs("P22 late", hall, 0, 980, 0, 1);
        coinsAre("P22 late", hall, 1000, 20, 0);
        Check.is("P18 late", hall.claim(0, 0, 1), -1);
    }

    private static void kept() {
        StrangerHall hall = hallOf(SHORT_TEXT, 20);
        hall.rule(0, 4);
        hall.tick(7);
        hall.give(0, 0, 1, 100, 30, 3);
        hall.claim(0, 0, 77);
        hall.tick(3);
        Check.is("P22 not kept yet", state(hall, 0), 2);
        hall.tick(1);
        Check.is("P22 kept", state(hall, 0), 4);
        houseIs("P22 kept", hall, 1, 1100, 1, 0);
        coinsAre("P22 kept", hall, 900, 0, 0);
        Check.is("P20 house of one that is kept", hall.piece(0, 0, 1), 1);
        Check.is("P20 number of one that is kept", hall.piece(0, 0, 9), 77);
        Check.is("P17 one that is kept", hall.give(0, 0, 1, 0, 0, 1), -1);
        StrangerHall shorter = hallOf(SHORT_TEXT, 20);
        shorter.give(0, 0, 0, 1, 1, 1);
        shorter.claim(0, 0, 1);
        shorter.tick(5);
        shorter.rule(0, 2);
        Check.is("P22 not by a rule alone", state(shorter, 0), 2);
        shorter.tick(0);
        Check.is("P22 not by no tick", state(shorter, 0), 2);
        shorter.tick(1);
        Check.is("P22 the window of now", state(shorter, 0), 4);
    }

    private static void waiting() {
        StrangerHall hall = hallOf(SHORT_TEXT, 10);
        for (int p = 1; p < 4; p++) {
            hall.give(0, p, p - 1, 100, 50, 9);
        }
        hall.claim(0, 1, 1);
        hall.claim(0, 3, 3);
        hall.tick(10);
        Check.is("P22 waits", state(hall, 1), 5);
        Check.is("P22 late between", state(hall, 2), 0);
        Check.is("P22 waits behind", state(hall, 3), 5);
        coinsAre("P22 waiting", hall, 800, 50, 200);
        houseIs("P22 waiting", hall, 0, 1000, 0, 0);
        hall.give(0, 0, 2, 10, 0, 9);
        hall.claim(0, 0, 9);
        hall.tick(10);
        Check.is("P22 first kept", state(hall, 0), 4);
        Check.is("P22 next kept", state(hall, 1), 4);
        Check.is("P22 open between", state(hall, 2), 0);
        Check.is("P22 waits still", state(hall, 3), 5);
        houseIs("P22 kept by the one ahead", hall, 0, 1100, 1, 0);
        coinsAre("P22 kept by the one ahead", hall, 790, 50, 100);
        hall.give(0, 2, 0, 5, 0, 9);
        hall.claim(0, 2, 4);
        hall.tick(10);
        Check.is("P22 third kept", state(hall, 2), 4);
        Check.is("P22 last kept", state(hall, 3), 4);
        coinsAre("P22 all kept", hall, 785, 50, 0);
    }

    private static void doubt() {
        StrangerHall hall = hallOf(SHORT_TEXT, 20);
        Check.is("P19 open", hall.doubt(0, 0, 0, 0), -1);
        hall.give(0, 0, 0, 100, 700, 9);
        Check.is("P19 given", hall.doubt(0, 0, 1, 0), -1);
        hall.claim(0, 0, 5);
        Check.is("P19 its own, alike", hall.doubt(0, 0, 0, 5), -2);
        Check.is("P19 alike", hall.doubt(0, 0, 1, 5), -3);
        hall.give(0, 1, 1, 1, 800, 9);
        Check.is("P19 without the pledge", hall.doubt(0, 0, 1, 6), -5);
        Check.is("P19 refused", state(hall, 0), 2);
        Check.noPlace("P19 task", () -> hall.doubt(1, 0, 0, 0));
        Check.noPlace("P19 piece", () -> hall.doubt(0, 2, 0, 0));
        Check.noPlace("P19 house", () -> hall.doubt(0, 0, 3, 0));
        Check.is("P19 doubted", hall.doubt(0, 0, 2, 6), 1);
        Check.is("P20 quarrel", state(hall, 0), 3);
        Check.is("P20 who doubts", hall.piece(0, 0, 4), 2);
        Check.is("P20 start", hall.piece(0, 0, 5), 0);
        Check.is("P20 end", hall.piece(0, 0, 6), 20);
        Check.is("P20 asked", hall.piece(0, 0, 7), 10);
        Check.is("P20 number", hall.piece(0, 0, 9), 5);
        Check.is("P19 the same pledge", hall.told(2, 0), 300);
        Check.is("P19 held", hall.count(4), 801 + 800 + 700);
        Check.is("P19 doubted already", hall.doubt(0, 0, 1, 7), -1);
        StrangerHall exact = hallOf(SHORT_TEXT, 20);
        exact.give(0, 0, 0, 0, 1000, 9);
        exact.claim(0, 0, 5);
        Check.is("P19 all its coins", exact.doubt(0, 0, 1, 6), 1);
        Check.is("P19 none is left", exact.told(1, 0), 0);
        Check.is("P17 in a quarrel", hall.give(0, 0, 1, 0, 0, 1), -1);
        Check.is("P18 in a quarrel", hall.claim(0, 0, 1), -1);
    }

    private static void doubtAhead() {
        StrangerHall hall = hallOf(SHORT_TEXT, 10);
        hall.give(0, 1, 0, 1, 0, 900);
        hall.claim(0, 1, 5);
        Check.is("P19 ahead open, no pledge wanted", hall.doubt(0, 1, 1, 6), -4);
        hall.give(0, 0, 0, 1, 10, 900);
        Check.is("P19 ahead given", hall.doubt(0, 1, 1, 6), -4);
        hall.claim(0, 0, 5);
        hall.doubt(0, 0, 2, 6);
        Check.is("P19 ahead in a quarrel", hall.doubt(0, 1, 1, 6), -4);
        StrangerHall claimed = hallOf(SHORT_TEXT, 10);
        claimed.give(0, 0, 0, 1, 0, 9);
        claimed.give(0, 1, 0, 1, 0, 9);
        claimed.claim(0, 0, 5);
        claimed.claim(0, 1, 5);
        Check.is("P19 ahead claimed", claimed.doubt(0, 1, 1, 6), 1);
        Check.is("P20 start behind", claimed.piece(0, 1, 5), 10);
        StrangerHall kept = hallOf(SHORT_TEXT, 10);
        kept.give(0, 0, 0, 1, 0, 9);
        kept.claim(0, 0, 5);
        kept.tick(10);
        kept.give(0, 1, 0, 1, 0, 9);
        kept.claim(0, 1, 5);
        Check.is("P19 ahead kept", kept.doubt(0, 1, 1, 6), 1);
        StrangerHall waits = hallOf(SHORT_TEXT, 10);
        waits.give(0, 1, 0, 1, 0, 9);
        waits.claim(0, 1, 5);
        waits.tick(10);
        waits.give(0, 2, 0, 1, 0, 9);
        waits.claim(0, 2, 5);
        Check.is("P20 ahead waiting", state(waits, 1), 5);
        Check.is("P19 ahead waiting", waits.doubt(0, 2, 1, 6), 1);
    }

    /** A quarrel about the first piece, from step 0 to 20. */
    private static StrangerHall quarrel(int claimed, int doubted) {
        StrangerHall hall = hallOf(SHORT_TEXT, 20);
        hall.give(0, 0, 0, 100, 31, 9);
        hall.claim(0, 0, claimed);
        Check.is("P19 doubted", hall.doubt(0, 0, 1, doubted), 1);
        return hall;
    }

    private static void halves() {
        StrangerHall hall = quarrel(5, 6);
        Check.is("P21 claimer", hall.answer(0, 0, true, 1), 1);
        Check.is("P21 claimer again", hall.answer(0, 0, true, 2), -2);
        Check.is("P20 the middle still", hall.piece(0, 0, 7), 10);
        Check.is("P21 the other one, alike", hall.answer(0, 0, false, 1), 1);
        Check.is("P20 start", hall.piece(0, 0, 5), 10);
        Check.is("P20 end", hall.piece(0, 0, 6), 20);
        Check.is("P20 middle", hall.piece(0, 0, 7), 15);
        Check.is("P21 the other one first", hall.answer(0, 0, false, 1), 1);
        Check.is("P21 the other one again", hall.answer(0, 0, false, 1), -2);
        Check.is("P21 not alike", hall.answer(0, 0, true, 2), 1);
        Check.is("P20 start stays", hall.piece(0, 0, 5), 10);
        Check.is("P20 end is the middle", hall.piece(0, 0, 6), 15);
        Check.is("P20 middle of 10 and 15", hall.piece(0, 0, 7), 12);
        Check.noPlace("P21 task", () -> hall.answer(1, 0, true, 0));
        Check.noPlace("P21 piece", () -> hall.answer(0, 2, true, 0));
        Check.is("P21 no quarrel", hall.answer(0, 1, true, 0), -1);
    }

    /** Both answer till it is judged; 0 is a number that is no sum here. */
    private static void answerAll(StrangerHall hall, int piece, boolean claimerTrue, boolean doubterTrue) {
        for (int i = 0; i < 20 && state(hall, piece) == 3; i++) {
            int sum = hall.sum(0, hall.piece(0, piece, 7));
            Check.is("P20 wide while it lasts", hall.piece(0, piece, 6) - hall.piece(0, piece, 5) > 1, true);
            Check.is("P21 first", hall.answer(0, piece, true, claimerTrue ? sum : 1), 1);
            int answered = hall.answer(0, piece, false, doubterTrue ? sum : 2);
            Check.is("P21 judged", answered, state(hall, piece) == 3 ? 1 : 2);
        }
        Check.is("P21 the quarrel is over", state(hall, piece) != 3, true);
        for (int what = 4; what <= 7; what++) {
            Check.is("P20 what " + what + " without a quarrel", hall.piece(0, piece, what), -1);
        }
    }

    private static void claimerRight() {
        int sum = quarrel(5, 6).sum(0, 20);
        StrangerHall hall = quarrel(sum, 6);
        answerAll(hall, 0, true, false);
        Check.is("P21 kept", state(hall, 0), 4);
        houseIs("P21 claimer", hall, 0, 1115, 1, 0);
        houseIs("P21 doubter", hall, 1, 969, 0, 1);
        coinsAre("P21 claimer right", hall, 900, 16, 0);
        Check.is("P20 never void", hall.piece(0, 0, 8), 0);
        // Both true in the middle: judged at the piece's own end.
        StrangerHall late = quarrel(sum, 6);
        answerAll(late, 0, true, true);
        houseIs("P21 doubter at the end", late, 1, 969, 0, 1);
        StrangerHall behind = hallOf(SHORT_TEXT, 20);
        behind.give(0, 0, 0, 100, 31, 9);
        behind.give(0, 1, 1, 100, 31, 9);
        behind.claim(0, 0, behind.sum(0, 20));
        behind.claim(0, 1, behind.sum(0, 39));
        behind.doubt(0, 1, 2, 0);
        answerAll(behind, 1, true, true);
        Check.is("P21 stays, the one ahead is claimed", state(behind, 1), 5);
        Check.is("P20 nobody doubts one that waits", behind.piece(0, 1, 4), -1);
        Check.is("P20 number of one that waits", behind.piece(0, 1, 9), behind.sum(0, 39));
        Check.is("P21 the price is held still", behind.count(4), 231);
    }

    private static void doubterRight() {
        int sum = quarrel(5, 6).sum(0, 20);
        StrangerHall hall = quarrel(6, sum);
        answerAll(hall, 0, false, true);
        Check.is("P21 void", state(hall, 0), 0);
        Check.is("P20 no house", hall.piece(0, 0, 1), -1);
        Check.is("P20 no number", hall.piece(0, 0, 9), 0);
        Check.is("P20 how often void", hall.piece(0, 0, 8), 1);
        houseIs("P21 claimer", hall, 0, 969, 0, 1);
        houseIs("P21 doubter", hall, 1, 1015, 0, 0);
        coinsAre("P21 doubter right", hall, 1000, 16, 0);
    }

    private static void bothLie() {
        StrangerHall hall = quarrel(5, 6);
        answerAll(hall, 0, false, false);
        Check.is("P21 void", state(hall, 0), 0);
        houseIs("P21 both lie", hall, 0, 969, 0, 1);
        houseIs("P21 both lie", hall, 1, 969, 0, 1);
        coinsAre("P21 both lie", hall, 1000, 62, 0);
        StrangerHall end = quarrel(5, 6);
        answerAll(end, 0, true, true);
        houseIs("P21 both lie at the end", end, 0, 969, 0, 1);
        houseIs("P21 both lie at the end", end, 1, 969, 0, 1);
    }

    private static void falseStart() {
        // Both tell one wrong number for the middle: then the START is wrong, and the true end doesn't help.
        StrangerHall hall = quarrel(5, 6);
        hall.answer(0, 0, true, 7);
        hall.answer(0, 0, false, 7);
        answerAll(hall, 0, true, false);
        Check.is("P21 END was judged by a true START", hall.told(0, 2), 1);
        StrangerHall wrongAhead = hallOf(SHORT_TEXT, 20);
        wrongAhead.give(0, 0, 0, 100, 31, 9);
        wrongAhead.give(0, 1, 1, 100, 31, 9);
        wrongAhead.claim(0, 0, 123);
        wrongAhead.claim(0, 1, wrongAhead.sum(0, 39));
        wrongAhead.doubt(0, 1, 2, 0);
        answerAll(wrongAhead, 1, true, false);
        houseIs("P21 START told falsely ahead", wrongAhead, 1, 969, 0, 1);
        houseIs("P21 START told falsely ahead", wrongAhead, 2, 969, 0, 1);
        Check.is("P21 the one ahead stays claimed", state(wrongAhead, 0), 2);
        Check.is("P21 void", state(wrongAhead, 1), 0);
    }

    private static void judgedAtOnce() {
        // 31 steps: the last piece has one step.
        String text = "a=3;".repeat(14) + "out m[1];";
        StrangerHall hall = hallOf(text, 10);
        Check.is("P7 length", hall.length(0), 31);
        hall.give(0, 2, 0, 100, 31, 9);
        hall.give(0, 3, 1, 100, 31, 9);
        hall.claim(0, 2, hall.sum(0, 30));
        hall.claim(0, 3, hall.sum(0, 31));
        Check.is("P19 judged at once", hall.doubt(0, 3, 2, 0), 1);
        Check.is("P19 claimer is right, it waits", state(hall, 3), 5);
        houseIs("P19 doubter", hall, 2, 969, 0, 1);
        houseIs("P19 claimer", hall, 1, 1000 + 15, 0, 0);
        StrangerHall other = hallOf(text, 10);
        other.give(0, 2, 0, 100, 31, 9);
        other.give(0, 3, 1, 100, 31, 9);
        other.claim(0, 2, 4);
        other.claim(0, 3, other.sum(0, 31));
        Check.is("P19 judged at once by a false START", other.doubt(0, 3, 2, 0), 1);
        Check.is("P19 void", state(other, 3), 0);
        Check.is("P19 how often void", other.piece(0, 3, 8), 1);
        houseIs("P19 doubter lies", other, 2, 969, 0, 1);
        houseIs("P19 claimer lies", other, 1, 969, 0, 1);
        StrangerHall right = hallOf(text, 10);
        right.give(0, 2, 0, 100, 31, 9);
        right.give(0, 3, 1, 100, 31, 9);
        right.claim(0, 2, right.sum(0, 30));
        right.claim(0, 3, 4);
        Check.is("P19 judged at once for the doubter", right.doubt(0, 3, 2, right.sum(0, 31)), 1);
        houseIs("P19 doubter is right", right, 2, 1015, 0, 0);
        houseIs("P19 claimer lies", right, 1, 969, 0, 1);
    }

    private static void silent() {
        StrangerHall claimer = quarrel(5, 6);
        claimer.tick(3);
        claimer.answer(0, 0, true, 1);
        claimer.tick(1);
        Check.is("P22 not silent yet", state(claimer, 0), 3);
        claimer.tick(1);
        Check.is("P22 kept by silence", state(claimer, 0), 4);
        houseIs("P22 the one who told", claimer, 0, 1115, 1, 0);
        houseIs("P22 the silent one", claimer, 1, 969, 0, 1);
        StrangerHall doubter = quarrel(5, 6);
        doubter.answer(0, 0, false, 1);
        doubter.tick(5);
        Check.is("P22 void by silence", state(doubter, 0), 0);
        houseIs("P22 the silent claimer", doubter, 0, 969, 0, 1);
        houseIs("P22 the doubter who told", doubter, 1, 1015, 0, 0);
        StrangerHall anew = quarrel(5, 6);
        anew.tick(4);
        anew.answer(0, 0, true, 1);
        anew.answer(0, 0, false, 2);
        anew.tick(4);
        Check.is("P22 asked anew", state(anew, 0), 3);
        anew.answer(0, 0, true, 1);
        anew.rule(1, 2);
        Check.is("P22 not by a rule alone", state(anew, 0), 3);
        anew.tick(1);
        Check.is("P22 silent by the turn of now", state(anew, 0), 4);
        StrangerHall both = quarrel(5, 6);
        both.tick(5);
        houseIs("P22 both silent", both, 0, 969, 0, 1);
        houseIs("P22 both silent", both, 1, 969, 0, 1);
        coinsAre("P22 both silent", both, 1000, 62, 0);
    }

    private static void share() {
        int[] shares = {0, 1, 33, 99, 100};
        for (int share : shares) {
            StrangerHall hall = quarrel(5, 6);
            hall.answer(0, 0, false, 1);
            hall.rule(2, share);
            hall.tick(5);
            houseIs("P22 share " + share, hall, 1, 1000 + 31 * share / 100, 0, 0);
            coinsAre("P22 share " + share, hall, 1000, 31 - 31 * share / 100, 0);
        }
    }

    private static void voidChain() {
        StrangerHall hall = hallOf(SHORT_TEXT, 10);
        hall.give(0, 1, 0, 100, 50, 900);
        hall.give(0, 2, 0, 100, 7, 900);
        hall.give(0, 3, 0, 100, 30, 900);
        hall.claim(0, 3, 9);
        hall.tick(10);
        Check.is("P22 waits", state(hall, 3), 5);
        hall.give(0, 0, 0, 100, 50, 900);
        for (int p = 0; p < 3; p++) {
            hall.claim(0, p, 9);
        }
        hall.doubt(0, 1, 1, 8);
        hall.doubt(0, 0, 2, 8);
        hall.answer(0, 1, true, 4);
        hall.answer(0, 0, false, 4);
        houseIs("P22 ahead of the chain", hall, 1, 950, 0, 0);
        hall.tick(5);
        for (int p = 0; p < 4; p++) {
            Check.is("P22 void " + p, state(hall, p), 0);
            Check.is("P20 void once " + p, hall.piece(0, p, 8), 1);
            Check.is("P20 no number " + p, hall.piece(0, p, 9), 0);
            Check.is("P20 no house " + p, hall.piece(0, p, 1), -1);
        }
        houseIs("P22 the liar", hall, 0, 950, 0, 1);
        houseIs("P22 a doubter without a fault", hall, 1, 1000, 0, 0);
        houseIs("P22 the one who is right", hall, 2, 1025, 0, 0);
        coinsAre("P22 chain", hall, 1000, 25, 0);
        // Nothing of the old quarrel is left.
        hall.give(0, 0, 0, 100, 50, 900);
        hall.claim(0, 0, 3);
        Check.is("P20 nobody doubts", hall.piece(0, 0, 4), -1);
        hall.doubt(0, 0, 1, 4);
        Check.is("P21 neither told anew", hall.answer(0, 0, false, 4), 1);
        Check.is("P20 start anew", hall.piece(0, 0, 5), 0);
        Check.is("P20 end anew", hall.piece(0, 0, 6), 10);
    }

    private static void voidStopsAtGiven() {
        StrangerHall hall = hallOf(SHORT_TEXT, 10);
        for (int p = 0; p < 4; p++) {
            hall.give(0, p, 0, 100, 50, 900);
        }
        hall.claim(0, 0, 9);
        hall.claim(0, 1, 9);
        hall.claim(0, 3, 9);
        hall.doubt(0, 0, 1, 8);
        hall.tick(5);
        Check.is("P22 void", state(hall, 0), 0);
        Check.is("P22 hung on it", state(hall, 1), 0);
        Check.is("P22 given stays", state(hall, 2), 1);
        Check.is("P22 behind the given one", state(hall, 3), 2);
        coinsAre("P22 void stops", hall, 800, 100, 300);
        houseIs("P22 void stops", hall, 0, 1000 - 200 + 50, 0, 1);
    }

    private static void lateLeavesNext() {
        StrangerHall hall = hallOf(SHORT_TEXT, 10);
        hall.give(0, 0, 0, 100, 50, 3);
        hall.give(0, 1, 1, 100, 50, 3);
        hall.claim(0, 1, 9);
        hall.tick(4);
        Check.is("P22 late", state(hall, 0), 0);
        Check.is("P22 the next stays", state(hall, 1), 2);
    }

    private static void tickOrder() {
        // In one tick the first piece comes to be void before the next one would stay.
        StrangerHall hall = hallOf(SHORT_TEXT, 10);
        hall.rule(0, 5);
        hall.give(0, 0, 0, 100, 50, 9);
        hall.give(0, 1, 1, 100, 50, 9);
        hall.claim(0, 0, 9);
        hall.claim(0, 1, 9);
        hall.doubt(0, 0, 2, 8);
        hall.tick(1000);
        Check.is("P22 void in order", state(hall, 1), 0);
        Check.is("P20 void once", hall.piece(0, 1, 8), 1);
        houseIs("P22 void in order", hall, 1, 1000, 0, 0);
        // In one tick the first is kept, then the next one at once.
        StrangerHall kept = hallOf(SHORT_TEXT, 10);
        kept.give(0, 0, 0, 100, 50, 9);
        kept.give(0, 1, 1, 100, 50, 9);
        kept.claim(0, 1, 9);
        kept.claim(0, 0, 9);
        kept.tick(10);
        Check.is("P22 both kept", state(kept, 1), 4);
        // A quarrel that ends some ticks before the one ahead is void ends with its lies.
        StrangerHall early = hallOf(SHORT_TEXT, 10);
        early.give(0, 0, 0, 100, 50, 9);
        early.give(0, 1, 1, 100, 50, 9);
        early.claim(0, 0, 9);
        early.claim(0, 1, 9);
        early.doubt(0, 1, 2, 8);
        early.tick(2);
        early.doubt(0, 0, 2, 8);
        early.tick(20);
        houseIs("P22 silent early", early, 1, 950, 0, 1);
        houseIs("P22 silent twice", early, 2, 900, 0, 2);
        // Many ticks at once are as many one by one.
        StrangerHall late = hallOf(SHORT_TEXT, 10);
        late.give(0, 0, 0, 100, 50, 9);
        late.give(0, 1, 1, 100, 50, 1000);
        late.claim(0, 0, 9);
        Check.is("P22 tick", late.tick(1000), 1000);
        Check.is("P22 kept long ago", state(late, 0), 4);
        Check.is("P22 not late at its tick", state(late, 1), 1);
        Check.is("P22 tick", late.tick(1), 1001);
        Check.is("P22 late", state(late, 1), 0);
    }

    private static void tickEdges() {
        StrangerHall hall = new StrangerHall();
        Check.is("P22 no ticks", hall.tick(0), 0);
        Check.noValue("P22 ticks -1", () -> hall.tick(-1));
        Check.noValue("P22 ticks 1001", () -> hall.tick(1001));
        for (int i = 1; i < 100; i++) {
            Check.is("P22 tick", hall.tick(1000), 1000 * i);
        }
        Check.is("P22 99999", hall.tick(999), 99999);
        Check.noState("P22 above 100000", () -> hall.tick(2));
        Check.noValue("P22 ticks 1001 near the end", () -> hall.tick(1001));
        Check.is("P31 count(0)", hall.count(0), 99999);
        Check.is("P22 100000", hall.tick(1), 100000);
        Check.is("P22 none above", hall.tick(0), 100000);
        Check.noState("P22 above", () -> hall.tick(1));
    }

    private static void pieceEdges() {
        StrangerHall hall = hallOf(SHORT_TEXT, 20);
        Check.noValue("P20 what -1", () -> hall.piece(0, 0, -1));
        Check.noValue("P20 what 10", () -> hall.piece(0, 0, 10));
        Check.noPlace("P20 piece 2", () -> hall.piece(0, 2, 10));
        Check.noPlace("P20 piece -1", () -> hall.piece(0, -1, 0));
        Check.noPlace("P20 task", () -> hall.piece(1, 0, 0));
        int[] due = {0, -1, 0, 20, -1, -1, -1, -1, 0, 0};
        for (int what = 0; what < 10; what++) {
            Check.is("P20 open, what " + what, hall.piece(0, 0, what), due[what]);
        }
    }
}
