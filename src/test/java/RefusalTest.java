import java.util.ArrayList;
import java.util.List;

/** A refused call changes nothing: of two halls that are alike one gets it, then all that can be asked is answered alike. */
public final class RefusalTest {
    private static final long NO_PLACE = -1001;
    private static final long NO_VALUE = -1002;
    private static final long NO_STATE = -1003;
    private static final int MIN = Integer.MIN_VALUE;
    private static final int MAX = Integer.MAX_VALUE;
    private static final int PIECES = 8;

    interface Call {
        long run(StrangerHall hall);
    }

    interface Maker {
        StrangerHall make();
    }

    public static void main(String[] args) {
        refusedTexts();
        refusedStates();
        refusedPieces();
        refusedGives();
        refusedDoubts();
        refusedBids();
        refusedParts();
        refusedWhereAllIsFull();
        refusedAtTheLastTick();
        askedAlone();
        taskChangesTheTapeAlone();
        Check.end();
    }

    /** One piece of each state: 0 kept, 1 claimed, 2 in a quarrel, 3 given, 4 open with bids, 5 waiting, 6 claimed, 7 open. */
    private static StrangerHall rich() {
        StrangerHall hall = new StrangerHall();
        Check.task(hall, 1000, "a=3;".repeat(99));
        Check.task(hall, 77, "while m[0]<5{out m[1]+m[0];m[0]=m[0]+1;}");
        Check.task(hall, 78, "while 1{a=a+1;}");
        hall.task(0, 0);
        hall.cut(0, 25);
        hall.memory(1, 0, 2);
        hall.memory(1, 1, -50);
        hall.memory(1, 63, 7);
        hall.lot(1, 0, 0, 1);
        hall.lot(1, 1, 1, 9);
        hall.lot(1, 6, 63, 6);
        hall.house(1000);
        hall.house(1000);
        hall.house(30);
        hall.rule(0, 9);
        hall.rule(1, 6);
        hall.rule(2, 25);
        hall.give(0, 0, 0, 100, 31, 50);
        hall.give(0, 5, 1, 90, 30, 50);
        hall.claim(0, 0, hall.sum(0, 25));
        hall.claim(0, 5, 55);
        hall.tick(9);
        hall.give(0, 1, 1, 80, 20, 50);
        hall.give(0, 2, 0, 70, 19, 50);
        hall.give(0, 3, 0, 60, 18, 4);
        hall.give(0, 6, 2, 50, 17, 50);
        hall.claim(0, 1, hall.sum(0, 50));
        hall.claim(0, 2, hall.sum(0, 75));
        hall.tick(1);
        hall.claim(0, 6, 66);
        hall.doubt(0, 2, 1, 22);
        hall.answer(0, 2, true, hall.sum(0, 62));
        hall.bid(0, 4, 0, 5, 3, 10);
        hall.bid(0, 4, 2, 4, 4, 41);
        hall.trial(1, 1, 3, hall.sum(1, 3));
        hall.trial(2, 1, 3, 0);
        Check.task(hall, 0, "a=b=");
        Check.feed(hall, "h=7;out h;");
        Check.feed(hall, "g=8;");
        return hall;
    }

    /** Six tasks, eight houses, 24 bids, 400 bytes. */
    private static StrangerHall full() {
        StrangerHall hall = rich();
        hall.task(3, 0);
        hall.task(4, 0);
        for (int h = 3; h < 8; h++) {
            hall.house(h);
        }
        hall.cut(1, 10);
        for (int h = 0; h < 8; h++) {
            hall.bid(0, 4, h, 5, 3, 10);
            hall.bid(0, 7, h, 6, 2, 9);
            hall.bid(1, 1, h, 7, 1, 8);
        }
        hall.tick(4);
        Check.is("P20 piece 3 is late", hall.piece(0, 3, 0), 0);
        Check.is("P31 24 bids", hall.count(5), 24);
        for (int i = 0; i < 20; i++) {
            hall.feed(0x683D373B, 0x6F757420, 0x683B2020, 0x20202020, 0x20202020);
        }
        Check.is("P31 400 bytes", hall.count(6), 400);
        return hall;
    }

    private static StrangerHall last() {
        StrangerHall hall = rich();
        hall.tick(990);
        for (int i = 0; i < 99; i++) {
            hall.tick(1000);
        }
        hall.give(0, 3, 0, 1, 1, 1);
        return hall;
    }

    /** All that can be asked; the last calls change what they ask. */
    private static List<Long> look(StrangerHall hall, boolean withTape) {
        List<Long> seen = new ArrayList<>();
        for (int what = 0; what < 8; what++) {
            seen.add(what == 6 && !withTape ? 0L : hall.count(what));
        }
        seen.add(withTape ? hall.fault() : 0L);
        for (int p = 0; p < PIECES; p++) {
            for (int what = 0; what < 10; what++) {
                seen.add((long) hall.piece(0, p, what));
            }
        }
        int houses = hall.count(2);
        for (int h = 0; h < houses; h++) {
            for (int what = 0; what < 3; what++) {
                seen.add((long) hall.told(h, what));
            }
            seen.add(hall.cost(0, 3, h));
            seen.add(hall.cost(0, 4, h));
            seen.add(hall.cost(0, 7, h));
        }
        seen.add(hall.chosen(0, 16, 3, -1));
        seen.add(hall.chosen(0, 16, 4, 4));
        for (int t = 0; t < hall.count(1); t++) {
            seen.add((long) hall.purse(t));
            seen.add((long) hall.length(t));
            seen.add((long) hall.linear(t));
            seen.add((long) hall.sum(t, 0));
            seen.add((long) hall.sum(t, 20000));
            seen.add((long) hall.code(t, 0, 0));
            seen.add((long) hall.out(t, 0, 1));
            seen.add((long) hall.out(t, 3, 1));
        }
        int[] places = {0, 1, 63};
        for (int k = 0; k < 8; k++) {
            for (int place : places) {
                seen.add((long) hall.part(1, 8, k, place));
            }
        }
        for (int what = 0; what < 3; what++) {
            seen.add((long) hall.rule(what, 1));
        }
        if (withTape) {
            seen.add((long) hall.task(0, Math.min(10, hall.count(6))));
            int made = hall.count(1) - 1;
            for (int k = 0; k < 5; k++) {
                seen.add((long) hall.code(made, k, 0));
                seen.add((long) hall.code(made, k, 1));
            }
        }
        return seen;
    }

    /** What comes of it tick by tick: what is due, asked and told already, and still to be claimed. */
    private static List<Long> future(StrangerHall hall) {
        List<Long> seen = new ArrayList<>();
        for (int i = 0; i < 13; i++) {
            seen.add(answer(hall, x -> x.tick(1)));
            if (i == 1) {
                seen.add((long) hall.claim(0, 3, 33));
                seen.add((long) hall.answer(0, 2, false, 9));
                seen.add((long) hall.answer(0, 2, true, 9));
            }
            if (i == 3) {
                seen.add((long) hall.doubt(0, 6, 0, 3));
                seen.add((long) hall.give(0, 4, 1, 10, 10, 2));
            }
            for (int p = 0; p < PIECES; p++) {
                seen.add((long) hall.piece(0, p, 0));
            }
            for (int h = 0; h < 3; h++) {
                seen.add((long) hall.told(h, 0));
                seen.add((long) hall.told(h, 2));
            }
            seen.add((long) hall.purse(0));
            seen.add((long) hall.count(3));
            seen.add((long) hall.count(4));
            seen.add((long) hall.count(5));
        }
        return seen;
    }

    private static long answer(StrangerHall hall, Call call) {
        try {
            return call.run(hall);
        } catch (IndexOutOfBoundsException e) {
            return NO_PLACE;
        } catch (IllegalArgumentException e) {
            return NO_VALUE;
        } catch (IllegalStateException e) {
            return NO_STATE;
        }
    }

    private static void unchanged(String what, long due, Maker maker, Call call) {
        StrangerHall one = maker.make();
        Check.is(what, answer(one, call), due);
        Check.is(what + " leaves all as it was", look(one, true).equals(look(maker.make(), true)), true);
        StrangerHall other = maker.make();
        answer(other, call);
        Check.is(what + " leaves what comes of it", future(other).equals(future(maker.make())), true);
    }

    private static void refused(String what, long due, Call call) {
        unchanged(what, due, RefusalTest::rich, call);
    }

    private static void refusedTexts() {
        refused("P3 purse -1", NO_VALUE, x -> x.task(-1, 10));
        refused("P3 purse 1000001", NO_VALUE, x -> x.task(1000001, 10));
        refused("P3 n -1", NO_VALUE, x -> x.task(5, -1));
        refused("P3 n 41", NO_VALUE, x -> x.task(5, 41));
        refused("P5 no task", NO_PLACE, x -> x.code(4, 0, 0));
        refused("P5 no what", NO_VALUE, x -> x.code(0, 0, 2));
        refused("P5 no step", -1, x -> x.code(0, 199, 0));
    }

    private static void refusedStates() {
        refused("P6 no task", NO_PLACE, x -> x.memory(4, 0, 99));
        refused("P6 no place", NO_VALUE, x -> x.memory(1, 64, 99));
        refused("P6 no place below", NO_VALUE, x -> x.memory(1, -1, 99));
        refused("P6 cut", -1, x -> x.memory(0, 0, 99));
        refused("P7 no task", NO_PLACE, x -> x.length(-1));
        refused("P7 never ends", -1, x -> x.length(2));
        refused("P8 no cell", NO_VALUE, x -> x.cell(1, 5, 128));
        refused("P8 no steps", NO_VALUE, x -> x.cell(1, 20001, 0));
        refused("P9 no steps", NO_VALUE, x -> x.sum(1, -1));
        refused("P10 no page", NO_VALUE, x -> x.beside(1, 5, 16, 0));
        refused("P10 no level", NO_VALUE, x -> x.beside(1, 5, 0, 4));
        refused("P12 no page", NO_VALUE, x -> x.shown(1, 5, -1, 0) ? 1 : 0);
        refused("P12 not shown", 0, x -> x.shown(1, 5, 0, 0) ? 1 : 0);
    }

    private static void refusedPieces() {
        refused("P13 no task", NO_PLACE, x -> x.cut(4, 10));
        refused("P13 by 9", NO_VALUE, x -> x.cut(1, 9));
        refused("P13 by 20001", NO_VALUE, x -> x.cut(1, 20001));
        refused("P13 cut", -1, x -> x.cut(0, 50));
        refused("P13 never ends", -2, x -> x.cut(2, 20000));
        refused("P13 none", -3, x -> x.cut(3, 10));
        refused("P14 coins -1", NO_VALUE, x -> x.house(-1));
        refused("P14 coins 1000001", NO_VALUE, x -> x.house(1000001));
        refused("P15 no house", NO_PLACE, x -> x.told(3, 0));
        refused("P15 no what", NO_VALUE, x -> x.told(0, 3));
        refused("P16 no rule", NO_VALUE, x -> x.rule(3, 5));
        refused("P16 no window", NO_VALUE, x -> x.rule(0, 0));
        refused("P16 no turn", NO_VALUE, x -> x.rule(1, 101));
        refused("P16 no share", NO_VALUE, x -> x.rule(2, -1));
        refused("P20 no piece", NO_PLACE, x -> x.piece(0, 8, 0));
        refused("P20 no what", NO_VALUE, x -> x.piece(0, 0, 10));
        refused("P22 ticks -1", NO_VALUE, x -> x.tick(-1));
        refused("P22 ticks 1001", NO_VALUE, x -> x.tick(1001));
        refused("P22 no ticks", 10, x -> x.tick(0));
    }

    private static void refusedGives() {
        refused("P17 no task", NO_PLACE, x -> x.give(4, 4, 1, 10, 10, 5));
        refused("P17 no piece", NO_PLACE, x -> x.give(0, 8, 1, 10, 10, 5));
        refused("P17 no house", NO_PLACE, x -> x.give(0, 4, 3, 10, 10, 5));
        refused("P17 price -1", NO_VALUE, x -> x.give(0, 4, 1, -1, 10, 5));
        refused("P17 price 1000001", NO_VALUE, x -> x.give(0, 4, 1, 1000001, 10, 5));
        refused("P17 pledge -1", NO_VALUE, x -> x.give(0, 4, 1, 10, -1, 5));
        refused("P17 pledge 1000001", NO_VALUE, x -> x.give(0, 4, 1, 10, 1000001, 5));
        refused("P17 ticks 0", NO_VALUE, x -> x.give(0, 4, 1, 10, 10, 0));
        refused("P17 ticks 1001", NO_VALUE, x -> x.give(0, 4, 1, 10, 10, 1001));
        refused("P17 no such price", -2, x -> x.give(0, 4, 1, 551, 10, 5));
        refused("P17 no such pledge", -3, x -> x.give(0, 4, 2, 10, 24, 5));
        int[] taken = {0, 1, 2, 3, 5, 6};
        for (int p : taken) {
            refused("P17 piece " + p + " is not open", -1, x -> x.give(0, p, 1, 10, 10, 5));
        }
        int[] notGiven = {0, 1, 2, 4, 5, 6, 7};
        for (int p : notGiven) {
            refused("P18 piece " + p + " is not given", -1, x -> x.claim(0, p, 12345));
        }
        refused("P18 no piece", NO_PLACE, x -> x.claim(0, 8, 12345));
    }

    private static void refusedDoubts() {
        int[] notClaimed = {0, 2, 3, 4, 5, 7};
        for (int p : notClaimed) {
            refused("P19 piece " + p + " is not claimed", -1, x -> x.doubt(0, p, 1, 12345));
        }
        refused("P19 its own", -2, x -> x.doubt(0, 1, 1, 12345));
        refused("P19 alike", -3, x -> x.doubt(0, 6, 0, 66));
        refused("P19 no pledge", -5, x -> x.doubt(0, 1, 2, 12345));
        refused("P19 no house", NO_PLACE, x -> x.doubt(0, 1, 3, 12345));
        unchanged("P19 the one ahead is open", -4, RefusalTest::openAhead, x -> x.doubt(0, 6, 0, 12345));
        int[] noQuarrel = {0, 1, 3, 4, 5, 6, 7};
        for (int p : noQuarrel) {
            refused("P21 piece " + p + " is in no quarrel", -1, x -> x.answer(0, p, true, 12345));
            refused("P21 piece " + p + " is in no quarrel", -1, x -> x.answer(0, p, false, 12345));
        }
        refused("P21 it told", -2, x -> x.answer(0, 2, true, 12345));
        refused("P21 no piece", NO_PLACE, x -> x.answer(0, 8, false, 12345));
    }

    /** Piece 6 is claimed, the one ahead is open. */
    private static StrangerHall openAhead() {
        StrangerHall hall = new StrangerHall();
        Check.task(hall, 1000, "a=3;".repeat(99));
        Check.task(hall, 77, "while m[0]<5{out m[1]+m[0];m[0]=m[0]+1;}");
        hall.cut(0, 25);
        for (int h = 0; h < 3; h++) {
            hall.house(1000);
        }
        hall.give(0, 6, 1, 10, 31, 900);
        hall.claim(0, 6, 7);
        return hall;
    }

    private static void refusedBids() {
        int[] notOpen = {0, 1, 2, 3, 5, 6};
        for (int p : notOpen) {
            refused("P24 piece " + p + " is not open", -1, x -> x.bid(0, p, 1, 10, 10, 5));
        }
        refused("P24 no piece", NO_PLACE, x -> x.bid(0, 8, 1, 10, 10, 5));
        refused("P24 no house", NO_PLACE, x -> x.bid(0, 4, 3, 10, 10, 5));
        refused("P24 price -1, told anew", NO_VALUE, x -> x.bid(0, 4, 0, -1, 10, 5));
        refused("P24 hours 0, told anew", NO_VALUE, x -> x.bid(0, 4, 0, 10, 0, 5));
        refused("P24 hours 1001, told anew", NO_VALUE, x -> x.bid(0, 4, 0, 10, 1001, 5));
        refused("P24 pledge 1000001, told anew", NO_VALUE, x -> x.bid(0, 4, 0, 10, 10, 1000001));
        refused("P23 no house", NO_PLACE, x -> x.trial(3, 0, 0, 0) ? 1 : 0);
        refused("P23 no task", NO_PLACE, x -> x.trial(0, 4, 0, 0) ? 1 : 0);
        refused("P23 no steps", NO_VALUE, x -> x.trial(0, 0, 20001, 0) ? 1 : 0);
        refused("P25 no bid", -1, x -> x.cost(0, 4, 1));
        refused("P25 no house", NO_PLACE, x -> x.cost(0, 4, 3));
        refused("P26 no way", -2, x -> x.chosen(0, 16 + 128, 5000, -1));
        refused("P26 no way by hours", -2, x -> x.chosen(0, 16, 2, 4));
        refused("P26 no piece", NO_VALUE, x -> x.chosen(0, 256, 5000, -1));
        refused("P26 no hours", NO_VALUE, x -> x.chosen(0, 16, 0, -1));
        refused("P26 no what", NO_VALUE, x -> x.chosen(0, 16, 9, -2));
    }

    private static void refusedParts() {
        refused("P27 no task", NO_PLACE, x -> x.linear(4));
        refused("P28 no part", NO_VALUE, x -> x.lot(1, 7, 0, 12345));
        refused("P28 no part below", NO_VALUE, x -> x.lot(1, -1, 0, 12345));
        refused("P28 no place", NO_VALUE, x -> x.lot(1, 0, 64, 12345));
        refused("P28 no place below", NO_VALUE, x -> x.lot(1, 0, -1, 12345));
        refused("P28 no task", NO_PLACE, x -> x.lot(4, 0, 0, 12345));
        refused("P29 no number", NO_VALUE, x -> x.part(1, 9, 0, 0));
        refused("P29 no part", NO_VALUE, x -> x.part(1, 2, 2, 0));
        refused("P30 no number", NO_VALUE, x -> x.out(1, 1, 0));
        refused("P30 no out", NO_VALUE, x -> x.out(1, 0, 10));
        refused("P30 never ends", 0, x -> x.out(2, 8, 0));
        refused("P31 no count", -1, x -> x.count(8));
        refused("P32 no task", NO_PLACE, x -> x.purse(4));
    }

    private static void refusedWhereAllIsFull() {
        unchanged("P2 420 bytes", -1, RefusalTest::full, x -> x.feed(0x24242424, 0, 0, 0, 0));
        unchanged("P3 purse -1, with six tasks", NO_VALUE, RefusalTest::full, x -> x.task(-1, 4));
        unchanged("P3 n 401, with six tasks", NO_VALUE, RefusalTest::full, x -> x.task(5, 401));
        unchanged("P14 a ninth house", -1, RefusalTest::full, x -> x.house(500));
        unchanged("P14 a ninth house of -1", NO_VALUE, RefusalTest::full, x -> x.house(-1));
        unchanged("P24 a 25th bid", -2, RefusalTest::full, x -> x.bid(0, 3, 0, 1, 1, 1));
    }

    private static void refusedAtTheLastTick() {
        unchanged("P22 one above", NO_STATE, RefusalTest::last, x -> x.tick(1));
        unchanged("P22 a thousand above", NO_STATE, RefusalTest::last, x -> x.tick(1000));
        unchanged("P22 1001", NO_VALUE, RefusalTest::last, x -> x.tick(1001));
    }

    /** What only asks changes nothing, either. */
    private static void askedAlone() {
        unchanged("P8 cell", 0, RefusalTest::rich, x -> x.cell(2, 20000, 3));
        unchanged("P9 sum", 0, RefusalTest::rich, x -> x.sum(1, 7) * 0L);
        unchanged("P10 beside", 0, RefusalTest::rich, x -> x.beside(0, 100, 3, 2) * 0L);
        unchanged("P11 both", 1, RefusalTest::rich, x -> x.both(0, 0));
        unchanged("P26 chosen", 0, RefusalTest::rich, x -> x.chosen(0, 16, 9, 4));
        unchanged("P29 part", -2, RefusalTest::rich, x -> x.part(1, 8, 7, 0) - 3);
        unchanged("P30 out", 0, RefusalTest::rich, x -> x.out(1, 8, 9));
        unchanged("P22 no ticks", 10, RefusalTest::rich, x -> x.tick(0));
    }

    /** Faults, and -1 where there are 6, change the TAPE and the place of the FAULT alone. */
    private static void taskChangesTheTapeAlone() {
        Maker[] makers = {RefusalTest::rich, RefusalTest::full};
        long[] dues = {-9, -1};
        int[] places = {9, -1};
        for (int i = 0; i < 2; i++) {
            StrangerHall one = makers[i].make();
            Check.is("P3 refused", one.task(9, i == 0 ? 9 : 20), dues[i]);
            Check.is("P31 the tape is empty", one.count(6), 0);
            Check.is("P4 the place", one.fault(), places[i]);
            Check.is("P3 leaves all else as it was", look(one, false).equals(look(makers[i].make(), false)), true);
            StrangerHall other = makers[i].make();
            other.task(9, 9);
            Check.is("P3 leaves what comes of it", future(other).equals(future(makers[i].make())), true);
        }
    }
}
