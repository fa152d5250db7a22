/** Promises 28 to 32: lots, parts, outs, counts and purses. */
public final class PartTest {
    public static void main(String[] args) {
        lots();
        parts();
        outs();
        joined();
        joinedNotLinear();
        outEdges();
        counts();
        Check.end();
    }

    private static StrangerHall hallOf(String text) {
        StrangerHall hall = new StrangerHall();
        Check.is("task", Check.task(hall, 0, text), 0);
        return hall;
    }

    private static void lots() {
        StrangerHall hall = hallOf("out m[0];out m[1];out m[2];out m[3];");
        Check.is("P28 at first", hall.lot(0, 0, 0, 5), 0);
        Check.is("P28 what it was", hall.lot(0, 0, 0, -6), 5);
        Check.is("P28 another part", hall.lot(0, 6, 0, 1), 0);
        Check.is("P28 another place", hall.lot(0, 0, 63, 1), 0);
        Check.is("P28 still", hall.lot(0, 0, 0, 0), -6);
        hall.cut(0, 10);
        Check.is("P28 once cut", hall.lot(0, 0, 63, 2), 1);
        Check.noValue("P28 k -1", () -> hall.lot(0, -1, 0, 0));
        Check.noValue("P28 k 7", () -> hall.lot(0, 7, 0, 0));
        Check.noValue("P28 place -1", () -> hall.lot(0, 0, -1, 0));
        Check.noValue("P28 place 64", () -> hall.lot(0, 0, 64, 0));
        Check.noPlace("P28 task", () -> hall.lot(1, 7, 0, 0));
        Check.task(hall, 0, "");
        Check.is("P28 of another task", hall.lot(1, 0, 63, 0), 0);
        Check.is("P8 no lot is memory", hall.cell(0, 0, 127), 0);
    }

    private static void parts() {
        StrangerHall hall = hallOf("");
        hall.memory(0, 3, 100);
        for (int k = 0; k < 7; k++) {
            hall.lot(0, k, 3, 1 << k);
        }
        for (int n = 2; n <= 8; n++) {
            int together = 0;
            for (int k = 0; k < n; k++) {
                int due = k < n - 1 ? 1 << k : 101 - (1 << n - 1);
                Check.is("P29 part(0, " + n + ", " + k + ", 3)", hall.part(0, n, k, 3), due);
                together += hall.part(0, n, k, 3);
            }
            Check.is("P29 together", together, 100);
            int parts = n;
            Check.noValue("P29 k n", () -> hall.part(0, parts, parts, 3));
        }
        hall.lot(0, 0, 5, Integer.MIN_VALUE);
        hall.lot(0, 1, 5, -1);
        Check.is("P29 wraps", hall.part(0, 3, 2, 5), Integer.MIN_VALUE + 1);
        Check.is("P29 without lots", hall.part(0, 3, 1, 6), 0);
        Check.noValue("P29 n 1", () -> hall.part(0, 1, 0, 0));
        Check.noValue("P29 n 0", () -> hall.part(0, 0, 0, 0));
        Check.noValue("P29 n 9", () -> hall.part(0, 9, 0, 0));
        Check.noValue("P29 k -1", () -> hall.part(0, 2, -1, 0));
        Check.noValue("P29 place -1", () -> hall.part(0, 2, 0, -1));
        Check.noValue("P29 place 64", () -> hall.part(0, 2, 0, 64));
        Check.noPlace("P29 task", () -> hall.part(1, 1, 0, 0));
    }

    private static void outs() {
        StrangerHall hall = hallOf("b=12;while a<b{out a*a+m[0];a=a+1;}");
        hall.memory(0, 0, 1000);
        for (int j = 0; j < 10; j++) {
            Check.is("P30 out " + j, hall.out(0, 0, j), 1000 + j * j);
        }
        StrangerHall few = hallOf("out 5;");
        Check.is("P30 first", few.out(0, 0, 0), 5);
        Check.is("P30 no such out", few.out(0, 0, 1), 0);
        StrangerHall endless = hallOf("out 5;while 1{}");
        Check.is("P30 never ends", endless.out(0, 0, 0), 0);
        StrangerHall told = hallOf("out m[0];");
        Check.is("P30 before", told.out(0, 0, 0), 0);
        told.memory(0, 0, 9);
        Check.is("P30 told anew", told.out(0, 0, 0), 9);
    }

    private static void joined() {
        StrangerHall hall = hallOf("out 3*m[1]-m[2];out m[3];");
        hall.memory(0, 1, 10);
        hall.memory(0, 2, -4);
        hall.memory(0, 3, Integer.MAX_VALUE);
        for (int k = 0; k < 7; k++) {
            for (int place = 0; place < 4; place++) {
                hall.lot(0, k, place, 1234567891 * (k + 1) + 987654321 * place);
            }
        }
        for (int n = 2; n <= 8; n++) {
            Check.is("P30 joined of " + n, hall.out(0, n, 0), 34);
            Check.is("P30 second joined of " + n, hall.out(0, n, 1), Integer.MAX_VALUE);
            Check.is("P30 no such out of " + n, hall.out(0, n, 2), 0);
            Check.is("P30 as it is", hall.out(0, 0, 0), 34);
            Check.is("P8 the states are as before", hall.cell(0, 1, 65), 10);
        }
    }

    private static void joinedNotLinear() {
        StrangerHall square = hallOf("out m[0]*m[0];");
        square.memory(0, 0, 10);
        square.lot(0, 0, 0, 3);
        Check.is("P30 9 and 49", square.out(0, 2, 0), 58);
        Check.is("P30 9, 0 and 49", square.out(0, 3, 0), 58);
        StrangerHall ends = hallOf("out 7;while m[0]<0{}");
        ends.lot(0, 0, 0, 5);
        Check.is("P30 the last part never ends", ends.out(0, 2, 0), 7);
        StrangerHall some = hallOf("if m[0]>0{out m[0];}");
        some.memory(0, 0, 2);
        some.lot(0, 0, 0, 5);
        Check.is("P30 the last part has no such out", some.out(0, 2, 0), 5);
        Check.is("P30 of all", some.out(0, 0, 0), 2);
    }

    private static void outEdges() {
        StrangerHall hall = hallOf("out 5;");
        int[] wrong = {-1, 1, 9, Integer.MIN_VALUE, Integer.MAX_VALUE};
        for (int n : wrong) {
            Check.noValue("P30 n " + n, () -> hall.out(0, n, 0));
        }
        Check.noValue("P30 j -1", () -> hall.out(0, 0, -1));
        Check.noValue("P30 j 10", () -> hall.out(0, 2, 10));
        Check.noPlace("P30 task", () -> hall.out(1, 1, 0));
        Check.noPlace("P30 task -1", () -> hall.out(-1, 0, 0));
    }

    private static void counts() {
        StrangerHall hall = new StrangerHall();
        Check.feed(hall, "a=3;a=3;a=3;a=3;a=3;a=3;");
        Check.is("P31 tape", hall.count(6), 40);
        hall.task(100, 20);
        Check.task(hall, 50, "");
        hall.house(7);
        hall.tick(3);
        hall.cut(0, 10);
        hall.give(0, 0, 0, 20, 5, 2);
        hall.bid(0, 0, 0, 1, 1, 1);
        int[] due = {3, 2, 1, 0, 25, 0, 0, 157};
        for (int what = 0; what < due.length; what++) {
            Check.is("P31 count(" + what + ")", hall.count(what), due[what]);
        }
        hall.tick(3);
        Check.is("P31 chest", hall.count(3), 5);
        Check.is("P31 all coins", hall.count(7), 157);
        Check.is("P31 count(8)", hall.count(8), -1);
        Check.is("P31 count(-1)", hall.count(-1), -1);
        Check.is("P31 count(MIN)", hall.count(Integer.MIN_VALUE), -1);
        Check.is("P32 purse", hall.purse(0), 100);
        Check.is("P32 another purse", hall.purse(1), 50);
        Check.noPlace("P32 task 2", () -> hall.purse(2));
        Check.noPlace("P32 task -1", () -> hall.purse(-1));
    }
}
