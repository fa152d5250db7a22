/** Edges of promises 27 to 32, sentence by sentence: linear texts, lots, parts, outs, counts and purses. */
public final class PartEdgesTest {
    private static final int MIN = Integer.MIN_VALUE;
    private static final int MAX = Integer.MAX_VALUE;

    public static void main(String[] args) {
        linearForms();
        linearLeaves();
        linearBlanks();
        linearWhole400();
        linearStaysSo();
        lotBounds();
        lotsAreApart();
        lotsOnceCut();
        partBounds();
        partsOfEachNumber();
        partsBelowTheLast();
        partsWrap();
        partsWithoutLots();
        outNumbers();
        outOfTenAndMore();
        outWithout();
        outNeverEnds();
        outAtTheLastStep();
        joinedOfEachNumber();
        joinedNeverEndsForOne();
        joinedHasNoneForOne();
        joinedWraps();
        joinedRunsOnParts();
        outBounds();
        outLeavesStates();
        countOfANewObject();
        countEach();
        countOthers();
        purses();
        Check.end();
    }

    private static StrangerHall hallOf(String text) {
        StrangerHall hall = new StrangerHall();
        Check.is("P3 task(\"" + text + "\")", Check.task(hall, 0, text), 0);
        return hall;
    }

    private static void linear(String text, int due) {
        Check.is("P27 linear of \"" + text + "\"", hallOf(text).linear(0), due);
    }

    /** "{ out L ; }; L: P { + or - P }; P: m [ N ], or N * m [ N ]"; "the empty text is LINEAR" */
    private static void linearForms() {
        linear("", -1);
        linear("out m[0];", -1);
        linear("out m[99999];", -1);
        linear("out 0*m[0];", -1);
        linear("out 99999*m[00000000012];", -1);
        linear("out m[1]+m[2];", -1);
        linear("out m[1]-m[2];", -1);
        linear("out m[1]+2*m[2]-3*m[3]+m[4];", -1);
        linear("out m[1];out m[2];", -1);
        linear("out m[1];".repeat(30), -1);
        linear("out m[1]" + "-2*m[1]".repeat(38) + ";", -1);
    }

    /** "else told is the first byte with which it leaves this" */
    private static void linearLeaves() {
        String[] statements = {"a=m[1];", "m[1]=m[2];", "while m[1]{}", "if m[1]{}", "if m[1]{}else{}"};
        for (String statement : statements) {
            linear(statement, 0);
            linear("out m[1];" + statement, 9);
            linear(statement + "out m[1];", 0);
        }
        // Behind out, + and - neither a letter, nor ( can stand; behind N and * nothing but m.
        String[] heads = {"out ", "out m[1]+", "out m[1]-", "out 2*m[1]-3*m[2]+"};
        for (String head : heads) {
            linear(head + "a;", head.length());
            linear(head + "(m[1]);", head.length());
            linear(head + "2;", head.length() + 1);
            linear(head + "2+m[1];", head.length() + 1);
            linear(head + "2-m[1];", head.length() + 1);
            linear(head + "2/m[1];", head.length() + 1);
            linear(head + "2%m[1];", head.length() + 1);
            linear(head + "2<m[1];", head.length() + 1);
            linear(head + "2>m[1];", head.length() + 1);
            linear(head + "2=m[1];", head.length() + 1);
            linear(head + "12345;", head.length() + 5);
            linear(head + "2*3;", head.length() + 2);
            linear(head + "2*a;", head.length() + 2);
            linear(head + "2*(m[1]);", head.length() + 2);
            linear(head + "2*3*m[1];", head.length() + 2);
            linear(head + "m[a];", head.length() + 2);
            linear(head + "m[m[1]];", head.length() + 2);
            linear(head + "m[(1)];", head.length() + 2);
            linear(head + "2*m[a];", head.length() + 4);
            for (char sign : "+-*/%<>=".toCharArray()) {
                linear(head + "m[1" + sign + "1];", head.length() + 3);
                linear(head + "3*m[12" + sign + "1];", head.length() + 6);
                if (sign != '+' && sign != '-') {
                    linear(head + "m[1]" + sign + "m[2];", head.length() + 4);
                    linear(head + "3*m[1]" + sign + "2;", head.length() + 6);
                }
            }
        }
    }

    /** "(Blanks may stand as in 1.)": the byte that is told is none of them */
    private static void linearBlanks() {
        linear("  ", -1);
        linear("  out  2  *  m  [  3  ]  +  m  [  4  ]  -  m  [  5  ]  ;  ", -1);
        linear(" ".repeat(391) + "out m[1];", -1);
        linear("  a=1;", 2);
        linear("out m[1];   a=1;", 12);
        linear("out   (m[1]);", 6);
        linear("out 2   ;", 8);
        linear("out 2*   a;", 9);
        linear("out m[   a];", 9);
        linear("out m[1   +1];", 10);
        linear("out m[1]   *2;", 11);
    }

    private static void linearWhole400() {
        linear("out m[1]" + "+m[1]".repeat(65) + " ".repeat(66) + ";", -1);
        linear("out m[1]" + "+m[1]".repeat(64) + " ".repeat(65) + "*2;    ", 393);
    }

    /** What is LINEAR hangs on the text alone, and each task has its own. */
    private static void linearStaysSo() {
        StrangerHall hall = hallOf("out m[1];a=1;");
        Check.task(hall, 0, "out m[1];");
        Check.task(hall, 0, "b");
        Check.feed(hall, "m[1]=1;");
        hall.memory(0, 1, 9);
        hall.cut(0, 10);
        Check.is("P27 of task 0", hall.linear(0), 9);
        Check.is("P27 of task 1", hall.linear(1), -1);
        Check.is("P31 the tape is as it was", hall.count(6), 20);
        int[] none = {-1, 2, 6, MIN, MAX};
        for (int task : none) {
            Check.noPlace("P27 task " + task, () -> hall.linear(task));
        }
    }

    /** "A LOT for the k-th part (0 to 6) of MEMORY at a place: what it was"; "no such part, place" */
    private static void lotBounds() {
        StrangerHall hall = hallOf("");
        int[] parts = {-1, 7, 8, MIN, MAX};
        for (int k : parts) {
            Check.noValue("P28 part " + k, () -> hall.lot(0, k, 0, 1));
        }
        int[] places = {-1, 64, MIN, MAX};
        for (int place : places) {
            Check.noValue("P28 place " + place, () -> hall.lot(0, 0, place, 1));
        }
        int[][] ends = {{0, 0}, {0, 63}, {6, 0}, {6, 63}};
        int[] values = {MIN, MAX, -1, 0, 5};
        for (int[] end : ends) {
            int was = 0;
            for (int value : values) {
                Check.is("P28 lot " + end[0] + " at " + end[1], hall.lot(0, end[0], end[1], value), was);
                was = value;
            }
        }
    }

    private static void lotsAreApart() {
        StrangerHall hall = hallOf("");
        Check.task(hall, 0, "");
        int[] places = {0, 1, 31, 32, 62, 63};
        for (int k = 0; k < 7; k++) {
            for (int place : places) {
                Check.is("P28 at first", hall.lot(0, k, place, 100 * k + place + 1), 0);
            }
        }
        for (int k = 0; k < 7; k++) {
            for (int place : places) {
                Check.is("P29 part " + k + " at " + place, hall.part(0, 8, k, place), 100 * k + place + 1);
                Check.is("P28 of another task", hall.lot(1, k, place, 0), 0);
            }
        }
    }

    /** A LOT may be told once the TASK is CUT: memory alone is closed then. */
    private static void lotsOnceCut() {
        StrangerHall hall = hallOf("out m[0];");
        hall.memory(0, 0, 50);
        hall.cut(0, 10);
        Check.is("P28 once cut", hall.lot(0, 0, 0, 8), 0);
        Check.is("P29 the part", hall.part(0, 2, 0, 0), 8);
        Check.is("P29 the last part", hall.part(0, 2, 1, 0), 42);
        Check.is("P30 joined", hall.out(0, 2, 0), 50);
    }

    /** "IllegalArgumentException: n, k (0 to n - 1), or the place" */
    private static void partBounds() {
        StrangerHall hall = hallOf("");
        int[] numbers = {-1, 0, 1, 9, MIN, MAX};
        for (int n : numbers) {
            Check.noValue("P29 n " + n, () -> hall.part(0, n, 0, 0));
        }
        for (int n = 2; n <= 8; n++) {
            int parts = n;
            Check.is("P29 the last of " + n, hall.part(0, n, n - 1, 0), 0);
            Check.noValue("P29 k " + n + " of " + n, () -> hall.part(0, parts, parts, 0));
            Check.noValue("P29 k -1 of " + n, () -> hall.part(0, parts, -1, 0));
            Check.noValue("P29 k MIN of " + n, () -> hall.part(0, parts, MIN, 0));
            Check.noValue("P29 k MAX of " + n, () -> hall.part(0, parts, MAX, 0));
        }
        hall.memory(0, 0, 5);
        hall.memory(0, 63, 6);
        Check.is("P29 place 0", hall.part(0, 2, 1, 0), 5);
        Check.is("P29 place 63", hall.part(0, 2, 1, 63), 6);
        int[] places = {-1, 64, MIN, MAX};
        for (int place : places) {
            Check.noValue("P29 place " + place, () -> hall.part(0, 2, 0, place));
            Check.noValue("P29 the last part at " + place, () -> hall.part(0, 2, 1, place));
        }
    }

    private static StrangerHall lots(String text) {
        StrangerHall hall = hallOf(text);
        hall.memory(0, 5, 1000);
        for (int k = 0; k < 7; k++) {
            hall.lot(0, k, 5, 10 * k + 1);
        }
        return hall;
    }

    /** "for the last what makes them together the MEMORY" */
    private static void partsOfEachNumber() {
        StrangerHall hall = lots("");
        int[] lasts = {0, 0, 999, 988, 967, 936, 895, 844, 783};
        for (int n = 2; n <= 8; n++) {
            int together = 0;
            for (int k = 0; k < n; k++) {
                together += hall.part(0, n, k, 5);
            }
            Check.is("P29 the last of " + n, hall.part(0, n, n - 1, 5), lasts[n]);
            Check.is("P29 together of " + n, together, 1000);
        }
        hall.memory(0, 5, 2000);
        Check.is("P29 by the memory of now", hall.part(0, 8, 7, 5), 1783);
        hall.lot(0, 6, 5, 0);
        Check.is("P29 by the lots of now", hall.part(0, 8, 7, 5), 1844);
    }

    /** "for the k-th, below n - 1, its LOTS" */
    private static void partsBelowTheLast() {
        StrangerHall hall = lots("");
        for (int n = 2; n <= 8; n++) {
            for (int k = 0; k < n - 1; k++) {
                Check.is("P29 part " + k + " of " + n, hall.part(0, n, k, 5), 10 * k + 1);
            }
        }
    }

    private static void partsWrap() {
        StrangerHall hall = hallOf("");
        int[][] cases = {{MIN, 1, MAX}, {0, MIN, MIN}, {MAX, -1, MIN}, {-2, MAX, MAX}, {MIN, MIN, 0}};
        for (int[] one : cases) {
            hall.memory(0, 9, one[0]);
            hall.lot(0, 0, 9, one[1]);
            Check.is("P29 " + one[0] + " less " + one[1], hall.part(0, 2, 1, 9), one[2]);
        }
        for (int k = 0; k < 7; k++) {
            hall.lot(0, k, 9, MAX);
        }
        hall.memory(0, 9, 0);
        Check.is("P29 less seven times MAX", hall.part(0, 8, 7, 9), MIN + 7);
    }

    /** "(0 without)" */
    private static void partsWithoutLots() {
        StrangerHall hall = hallOf("");
        hall.memory(0, 1, 77);
        for (int n = 2; n <= 8; n++) {
            for (int k = 0; k < n; k++) {
                Check.is("P29 part " + k + " of " + n, hall.part(0, n, k, 1), k == n - 1 ? 77 : 0);
            }
        }
    }

    /** "OUT j of a TASK for given MEMORY: what its j-th out tells", from 0 on */
    private static void outNumbers() {
        StrangerHall hall = hallOf("out m[0];out m[0]+1;out 0-m[0];");
        hall.memory(0, 0, MAX);
        Check.is("P30 out 0", hall.out(0, 0, 0), MAX);
        Check.is("P30 out 1", hall.out(0, 0, 1), MIN);
        Check.is("P30 out 2", hall.out(0, 0, 2), -MAX);
        Check.is("P30 out 3", hall.out(0, 0, 3), 0);
        hall.memory(0, 0, 5);
        Check.is("P30 told anew", hall.out(0, 0, 0), 5);
    }

    /** "OUT j (0 to 9)": a tenth is told, an eleventh only counted */
    private static void outOfTenAndMore() {
        for (int outs = 8; outs <= 12; outs++) {
            StrangerHall hall = hallOf("while a<m[0]{a=a+1;out a*a;}");
            hall.memory(0, 0, outs);
            for (int j = 0; j < 10; j++) {
                Check.is("P30 out " + j + " of " + outs, hall.out(0, 0, j), j < outs ? (j + 1) * (j + 1) : 0);
            }
            Check.is("P8 outs", hall.cell(0, 20000, 2), outs);
            Check.noValue("P30 out 10 of " + outs, () -> hall.out(0, 0, 10));
            // The parts are 0 and the whole, so the second one alone has outs.
            Check.is("P30 joined out 9 of " + outs, hall.out(0, 2, 9), outs < 10 ? 0 : 100);
        }
    }

    /** "0 ..: it .. had no such out" */
    private static void outWithout() {
        StrangerHall hall = hallOf("");
        Check.is("P30 of no text", hall.out(0, 0, 0), 0);
        Check.is("P30 joined of no text", hall.out(0, 8, 9), 0);
        StrangerHall one = hallOf("out 7;");
        Check.is("P30 the first", one.out(0, 0, 0), 7);
        for (int j = 1; j < 10; j++) {
            Check.is("P30 none at " + j, one.out(0, 0, j), 0);
            Check.is("P30 none of both at " + j, one.out(0, 2, j), 0);
        }
    }

    /** "0 ..: it never ends" */
    private static void outNeverEnds() {
        StrangerHall hall = hallOf("out 7;while m[0]{}");
        Check.is("P30 it ends", hall.out(0, 0, 0), 7);
        hall.memory(0, 0, 1);
        Check.is("P30 it never ends", hall.out(0, 0, 0), 0);
        Check.is("P8 but tells at step 2", hall.cell(0, 2, 3), 7);
        Check.is("P30 joined, the last never ends", hall.out(0, 2, 0), 7);
        hall.lot(0, 0, 0, 1);
        Check.is("P30 joined, the first never ends", hall.out(0, 2, 0), 7);
        hall.lot(0, 0, 0, 2);
        Check.is("P30 joined, neither ends", hall.out(0, 2, 0), 0);
    }

    /** A run of just 20,000 steps has its outs, one of 20,001 none. */
    private static void outAtTheLastStep() {
        String rounds = "while a<m[0]{a=a+1;}";
        StrangerHall most = hallOf(rounds + "b=m[0];b=1;b=1;b=1;b=1;b=1;out 8;");
        most.memory(0, 0, 1998);
        Check.is("P7 LENGTH", most.length(0), 20000);
        Check.is("P30 at the last step", most.out(0, 0, 0), 8);
        Check.is("P30 joined: 8 of each part", most.out(0, 3, 0), 24);
        StrangerHall over = hallOf(rounds + "out 8;" + "b=1;".repeat(7));
        over.memory(0, 0, 1998);
        Check.is("P7 never ends", over.length(0), -1);
        Check.is("P30 one step too many", over.out(0, 0, 0), 0);
        Check.is("P30 of the two parts that end", over.out(0, 3, 0), 16);
    }

    /** "JOINED: those for all parts together" */
    private static void joinedOfEachNumber() {
        StrangerHall hall = lots("out m[5];out 1;out m[5]*m[5];");
        for (int n = 2; n <= 8; n++) {
            int squares = 0;
            for (int k = 0; k < n; k++) {
                int part = hall.part(0, n, k, 5);
                squares += part * part;
            }
            Check.is("P30 joined of " + n, hall.out(0, n, 0), 1000);
            Check.is("P30 one each of " + n, hall.out(0, n, 1), n);
            Check.is("P30 squares of " + n, hall.out(0, n, 2), squares);
            Check.is("P30 as it is", hall.out(0, 0, 2), 1000000);
        }
    }

    /** "(of JOINED for that part alone)": each part that never ends is 0, the others are not */
    private static void joinedNeverEndsForOne() {
        StrangerHall hall = hallOf("out 10+m[1];while m[0]{}");
        for (int k = 0; k < 7; k++) {
            hall.lot(0, k, 1, 1 << k);
        }
        for (int k = 0; k < 7; k++) {
            hall.lot(0, k, 0, 1);
            hall.memory(0, 0, 1);
            Check.is("P30 without part " + k, hall.out(0, 8, 0), 80 - 10 - (1 << k));
            hall.lot(0, k, 0, 0);
        }
        hall.memory(0, 0, 1);
        Check.is("P30 without the last part", hall.out(0, 8, 0), 70 + 127);
        hall.memory(0, 0, 0);
        Check.is("P30 of all parts", hall.out(0, 8, 0), 80);
    }

    private static void joinedHasNoneForOne() {
        StrangerHall hall = hallOf("if m[0]{out 10+m[1];}out 3;");
        hall.lot(0, 0, 0, 1);
        hall.lot(0, 0, 1, 5);
        Check.is("P30 both have a first", hall.out(0, 2, 0), 15 + 5);
        Check.is("P30 both have a second", hall.out(0, 2, 1), 3 + 3);
        hall.memory(0, 0, 1);
        Check.is("P30 the last one has no such out first", hall.out(0, 2, 0), 15 + 3);
        Check.is("P30 and none as the second", hall.out(0, 2, 1), 3);
        Check.is("P30 as it is", hall.out(0, 0, 0), 10);
    }

    private static void joinedWraps() {
        StrangerHall hall = hallOf("out m[0];out m[1];");
        hall.memory(0, 0, MIN);
        hall.lot(0, 0, 0, MAX);
        hall.lot(0, 1, 0, MAX);
        hall.lot(0, 2, 0, -7);
        Check.is("P30 wraps to the memory", hall.out(0, 4, 0), MIN);
        StrangerHall parts = hallOf("out 99999*99999;");
        Check.is("P30 eight times that", parts.out(0, 8, 0), 8 * 99999 * 99999);
    }

    /** A part's MEMORY is the part alone, at all 64 places. */
    private static void joinedRunsOnParts() {
        StrangerHall hall = hallOf("while a<64{b=b*3+m[a];a=a+1;}out b;");
        int[][] parts = new int[3][64];
        for (int place = 0; place < 64; place++) {
            parts[0][place] = place * 77 - 5;
            parts[1][place] = place * place;
            parts[2][place] = 1000 - place - parts[0][place] - parts[1][place];
            hall.memory(0, place, 1000 - place);
            hall.lot(0, 0, place, parts[0][place]);
            hall.lot(0, 1, place, parts[1][place]);
            hall.lot(0, 2, place, 99);
        }
        int together = 0;
        for (int[] part : parts) {
            int b = 0;
            for (int place = 0; place < 64; place++) {
                b = b * 3 + part[place];
            }
            together += b;
        }
        Check.is("P30 joined of 3", hall.out(0, 3, 0), together);
    }

    /** "n is neither 0 nor 2 to 8, or j" */
    private static void outBounds() {
        StrangerHall hall = hallOf("out 5;");
        int[] numbers = {-1, 1, 9, -2, MIN, MAX};
        for (int n : numbers) {
            Check.noValue("P30 n " + n, () -> hall.out(0, n, 0));
        }
        int[] outs = {-1, 10, MIN, MAX};
        for (int j : outs) {
            Check.noValue("P30 j " + j, () -> hall.out(0, 0, j));
            Check.noValue("P30 j " + j + " of 2", () -> hall.out(0, 2, j));
            Check.noValue("P30 j " + j + " of 8", () -> hall.out(0, 8, j));
        }
        Check.is("P30 n 0, j 9", hall.out(0, 0, 9), 0);
        Check.is("P30 n 2", hall.out(0, 2, 0), 10);
        Check.is("P30 n 8", hall.out(0, 8, 0), 40);
    }

    private static void outLeavesStates() {
        StrangerHall hall = hallOf("a=m[0];m[1]=a;out a;");
        hall.memory(0, 0, 6);
        hall.lot(0, 0, 0, 50);
        int sum = hall.sum(0, 4);
        Check.is("P30 joined", hall.out(0, 2, 0), 6);
        Check.is("P9 as it was", hall.sum(0, 4), sum);
        Check.is("P30 joined again", hall.out(0, 2, 0), 6);
        Check.is("P8 memory is as it was", hall.cell(0, 20000, 65), 6);
        Check.is("P7 length", hall.length(0), 8);
    }

    private static void countOfANewObject() {
        StrangerHall hall = new StrangerHall();
        for (int what = 0; what <= 7; what++) {
            Check.is("P1 count(" + what + ")", hall.count(what), 0);
        }
    }

    /** "0 TICK, 1 TASKS, 2 HOUSES, 3 the CHEST, 4 COINS held (prices and pledges), 5 BIDS, 6 bytes of the TAPE, 7 all COINS there are" */
    private static void countEach() {
        StrangerHall hall = new StrangerHall();
        Check.task(hall, 1000, "a=3;".repeat(99));
        Check.task(hall, 200, "");
        hall.house(100);
        hall.house(50);
        hall.house(7);
        hall.cut(0, 10);
        counts("at first", hall, 0, 2, 3, 0, 0, 0, 0, 1357);
        Check.feed(hall, "a");
        counts("feed", hall, 0, 2, 3, 0, 0, 0, 20, 1357);
        hall.bid(0, 3, 0, 1, 1, 1);
        counts("bid", hall, 0, 2, 3, 0, 0, 1, 20, 1357);
        hall.give(0, 0, 0, 40, 30, 3);
        counts("given", hall, 0, 2, 3, 0, 70, 1, 20, 1357);
        hall.give(0, 1, 0, 5, 6, 3);
        counts("given", hall, 0, 2, 3, 0, 81, 1, 20, 1357);
        hall.claim(0, 0, 1);
        counts("claimed", hall, 0, 2, 3, 0, 81, 1, 20, 1357);
        hall.doubt(0, 0, 1, 2);
        counts("doubted", hall, 0, 2, 3, 0, 111, 1, 20, 1357);
        hall.answer(0, 0, true, 9);
        counts("told", hall, 0, 2, 3, 0, 111, 1, 20, 1357);
        hall.tick(4);
        counts("late", hall, 4, 2, 3, 6, 100, 1, 20, 1357);
        hall.tick(1);
        counts("kept", hall, 5, 2, 3, 21, 0, 1, 20, 1357);
        hall.trial(2, 0, 0, 0);
        counts("trial", hall, 5, 2, 3, 21, 0, 1, 20, 1357);
        hall.house(10);
        counts("house", hall, 5, 2, 4, 21, 0, 1, 20, 1367);
        hall.task(5, 0);
        counts("task", hall, 5, 3, 4, 21, 0, 1, 0, 1372);
        hall.give(0, 2, 0, 1, 2, 1);
        hall.claim(0, 2, 1);
        hall.tick(10);
        counts("waiting: the price alone", hall, 15, 3, 4, 21, 1, 1, 0, 1372);
    }

    private static void counts(String what, StrangerHall hall, int... due) {
        for (int i = 0; i < due.length; i++) {
            Check.is("P31 " + what + ": count(" + i + ")", hall.count(i), due[i]);
        }
    }

    /** "NONE for others" */
    private static void countOthers() {
        StrangerHall hall = hallOf("");
        int[] others = {-1, 8, 9, MIN, MAX};
        for (int what : others) {
            Check.is("P31 count(" + what + ")", hall.count(what), -1);
        }
    }

    private static void purses() {
        StrangerHall hall = new StrangerHall();
        for (int t = 0; t < 6; t++) {
            hall.task(t == 5 ? 1000000 : t, 0);
        }
        for (int t = 0; t < 6; t++) {
            Check.is("P32 purse of " + t, hall.purse(t), t == 5 ? 1000000 : t);
        }
        Check.is("P31 all coins", hall.count(7), 1000010);
        int[] none = {-1, 6, MIN, MAX};
        for (int task : none) {
            Check.noPlace("P32 task " + task, () -> hall.purse(task));
        }
    }
}
