/** Edges of terms 2 and promises 6 to 12, sentence by sentence: memory, states, lengths, sums and pages. */
public final class StateEdgesTest {
    private static final int PLACE = 0;
    private static final int PILED = 1;
    private static final int OUTS = 2;
    private static final int OUT_SUM = 3;
    private static final int A = 4;
    private static final int B = 5;
    private static final int PILE = 32;
    private static final int MEMORY = 64;
    private static final int MIN = Integer.MIN_VALUE;
    private static final int MAX = Integer.MAX_VALUE;
    /** 10 steps for each a below m[0], then 5. */
    private static final String ROUNDS = "while a<m[0]{a=a+1;}";

    public static void main(String[] args) {
        allZeroAtFirst();
        memoryPlaces();
        memoryOfOneTask();
        memoryOnceCut();
        memoryBehindRefusedCuts();
        pushAndLoad();
        store();
        peekAndPoke();
        pokeOrder();
        signs();
        signsTakeTheSecondFirst();
        zero();
        jump();
        out();
        outsWrap();
        highestPile();
        haltChangesNothing();
        emptyTask();
        lengths();
        stepBounds();
        cellBounds();
        statesAfterEachOther();
        pageSums();
        sumOfState();
        sumsWrap();
        beside();
        besideBounds();
        both();
        shown();
        shownBounds();
        Check.end();
    }

    private static StrangerHall hallOf(String text) {
        StrangerHall hall = new StrangerHall();
        Check.is("P3 task(\"" + text + "\")", Check.task(hall, 0, text), 0);
        return hall;
    }

    private static StrangerHall rounds(int rounds, String rest) {
        StrangerHall hall = hallOf(ROUNDS + rest);
        hall.memory(0, 0, rounds);
        return hall;
    }

    private static int[] cells(StrangerHall hall, int steps) {
        int[] cells = new int[128];
        for (int i = 0; i < 128; i++) {
            cells[i] = hall.cell(0, steps, i);
        }
        return cells;
    }

    private static int pageSum(int[] cells, int page) {
        int sum = 17;
        for (int i = 8 * page; i < 8 * page + 8; i++) {
            sum = 31 * sum + cells[i];
        }
        return sum;
    }

    private static int treeSum(int[] cells, int page, int pages) {
        return pages == 1 ? pageSum(cells, page)
            : 1000003 * treeSum(cells, page, pages / 2) + 7 * treeSum(cells, page + pages / 2, pages / 2) + 1;
    }

    /** "A STATE has 128 CELLS ... all 0 at first, but what was told for MEMORY" */
    private static void allZeroAtFirst() {
        StrangerHall hall = hallOf("a=1;m[2]=3;out 4;");
        hall.memory(0, 5, -9);
        hall.sum(0, 20000);
        for (int cell = 0; cell < 128; cell++) {
            Check.is("P8 cell " + cell + " at first", hall.cell(0, 0, cell), cell == MEMORY + 5 ? -9 : 0);
        }
        int[] last = cells(hallOf("a=1;b=2;c=3;d=4;e=5;f=6;g=7;h=8;m[0]=9;m[63]=10;out 11;"), 20000);
        for (int cell = 0; cell < 128; cell++) {
            int due = cell == PLACE ? 24 : cell == OUTS ? 1 : cell == OUT_SUM ? 11 : cell >= A && cell < A + 8 ? cell - A + 1
                : cell == MEMORY ? 9 : cell == MEMORY + 63 ? 10 : 0;
            Check.is("P8 cell " + cell + " at the end", last[cell], due);
        }
    }

    /** "MEMORY at a place (0 to 63)"; "IllegalArgumentException: no such place" */
    private static void memoryPlaces() {
        StrangerHall hall = hallOf("");
        for (int place = 0; place < 64; place++) {
            Check.is("P6 place " + place, hall.memory(0, place, place * 7 - 100), 1);
        }
        for (int place = 0; place < 64; place++) {
            Check.is("P8 place " + place, hall.cell(0, 0, MEMORY + place), place * 7 - 100);
        }
        int[] wrong = {-1, 64, MIN, MAX};
        for (int place : wrong) {
            Check.noValue("P6 place " + place, () -> hall.memory(0, place, 1));
        }
        int[] values = {MIN, MAX, -1, 0};
        for (int value : values) {
            hall.memory(0, 63, value);
            Check.is("P6 value " + value, hall.cell(0, 0, 127), value);
        }
    }

    private static void memoryOfOneTask() {
        StrangerHall hall = hallOf("a=m[1];");
        Check.task(hall, 0, "a=m[1];");
        hall.memory(0, 1, 5);
        hall.memory(1, 1, 6);
        Check.is("P6 of task 0", hall.cell(0, 20000, A), 5);
        Check.is("P6 of task 1", hall.cell(1, 20000, A), 6);
        Check.is("P6 of task 0 again", hall.cell(0, 3, A), 5);
        hall.memory(0, 1, 7);
        Check.is("P6 told anew for task 0", hall.cell(0, 3, A), 7);
        Check.is("P6 not for task 1", hall.cell(1, 3, A), 6);
    }

    /** "-1: it is CUT", by one piece, too */
    private static void memoryOnceCut() {
        StrangerHall hall = hallOf("a=m[1];");
        hall.memory(0, 1, 5);
        Check.is("P13 one piece", hall.cut(0, 10), 1);
        Check.is("P6 it is cut", hall.memory(0, 1, 6), -1);
        Check.is("P6 as it was", hall.cell(0, 3, A), 5);
        Check.task(hall, 0, "");
        Check.is("P6 another task is not", hall.memory(1, 1, 6), 1);
    }

    private static void memoryBehindRefusedCuts() {
        StrangerHall hall = rounds(30, "");
        Check.is("P13 more than 20", hall.cut(0, 10), -3);
        Check.is("P6 not cut by that", hall.memory(0, 0, 5000), 1);
        Check.is("P13 never ends", hall.cut(0, 10), -2);
        Check.is("P6 not cut by that", hall.memory(0, 0, 1), 1);
        Check.is("P13 15 steps", hall.cut(0, 10), 2);
        Check.is("P6 cut", hall.memory(0, 0, 2), -1);
    }

    /** "PUSH, LOAD lay one on the PILE" */
    private static void pushAndLoad() {
        StrangerHall hall = hallOf("h=99999;out h+h;");
        Check.is("P8 PUSH", hall.cell(0, 1, PILE), 99999);
        Check.is("P8 one lies there", hall.cell(0, 1, PILED), 1);
        Check.is("P8 at the next place", hall.cell(0, 1, PLACE), 1);
        Check.is("P8 LOAD", hall.cell(0, 4, PILE + 1), 99999);
        Check.is("P8 two lie there", hall.cell(0, 4, PILED), 2);
        Check.is("P8 h is still so", hall.cell(0, 4, A + 7), 99999);
    }

    /** "STORE takes one off"; "0 where nothing lies" */
    private static void store() {
        StrangerHall hall = hallOf("h=99999;h=5;");
        Check.is("P8 stored", hall.cell(0, 2, A + 7), 99999);
        Check.is("P8 none lies there", hall.cell(0, 2, PILED), 0);
        Check.is("P8 0 where nothing lies", hall.cell(0, 2, PILE), 0);
        Check.is("P8 stored over it", hall.cell(0, 4, A + 7), 5);
    }

    /** "PEEK takes an address off (its lowest 6 bits) and lays what is there" */
    private static void peekAndPoke() {
        int[] addresses = {0, 1, 63, 64, 65, 127, 128, 99999, -1, -2, -63, -64, -65, MIN, MAX, MIN + 63, MAX - 62};
        for (int address : addresses) {
            StrangerHall peek = hallOf("a=m[2];b=m[a];");
            for (int place = 0; place < 64; place++) {
                peek.memory(0, place, 1000 + place);
            }
            peek.memory(0, 2, address);
            int lowest = address & 63;
            int due = lowest == 2 ? address : 1000 + lowest;
            Check.is("P8 PEEK at " + address, peek.cell(0, 5, PILE), due);
            Check.is("P8 one lies there", peek.cell(0, 5, PILED), 1);
            Check.is("P8 b", peek.cell(0, 6, B), due);
            StrangerHall poke = hallOf("m[m[2]]=77;");
            poke.memory(0, 2, address);
            Check.is("P8 POKE at " + address, poke.cell(0, 4, MEMORY + lowest), 77);
            Check.is("P8 none lies there", poke.cell(0, 4, PILED), 0);
        }
    }

    /** "POKE takes a value, then an address" */
    private static void pokeOrder() {
        StrangerHall hall = hallOf("m[3]=4;");
        Check.is("P8 the value is poked", hall.cell(0, 3, MEMORY + 3), 4);
        Check.is("P8 not the address", hall.cell(0, 3, MEMORY + 4), 0);
        Check.is("P8 0 where the address lay", hall.cell(0, 3, PILE), 0);
        Check.is("P8 0 where the value lay", hall.cell(0, 3, PILE + 1), 0);
        Check.is("P8 told memory is not changed by a run", hall.cell(0, 0, MEMORY + 3), 0);
    }

    private static void sign(int left, char sign, int right, int due) {
        StrangerHall hall = hallOf("a=m[1]" + sign + "m[2];");
        hall.memory(0, 1, left);
        hall.memory(0, 2, right);
        String call = left + " " + sign + " " + right;
        Check.is("P8 one lies there behind " + call, hall.cell(0, 5, PILED), 1);
        Check.is("P8 " + call, hall.cell(0, 5, PILE), due);
        Check.is("P8 0 where the second lay in " + call, hall.cell(0, 5, PILE + 1), 0);
        Check.is("P8 a = " + call, hall.cell(0, 6, A), due);
    }

    /** "/ and % cut, by 0 both are 0; <, >, =: 1 or 0"; "(32 bits, they wrap)" */
    private static void signs() {
        sign(MAX, '+', 1, MIN);
        sign(MIN, '+', MIN, 0);
        sign(MAX, '+', MAX, -2);
        sign(MIN, '-', 1, MAX);
        sign(0, '-', MIN, MIN);
        sign(MAX, '-', -1, MIN);
        sign(65536, '*', 65536, 0);
        sign(65536, '*', 32768, MIN);
        sign(MIN, '*', -1, MIN);
        sign(MAX, '*', MAX, 1);
        sign(46341, '*', 46341, 46341 * 46341);
        sign(7, '/', 2, 3);
        sign(-7, '/', 2, -3);
        sign(7, '/', -2, -3);
        sign(-7, '/', -2, 3);
        sign(1, '/', 2, 0);
        sign(-1, '/', 2, 0);
        sign(7, '/', 0, 0);
        sign(-7, '/', 0, 0);
        sign(0, '/', 0, 0);
        sign(MIN, '/', 0, 0);
        sign(MIN, '/', -1, MIN);
        sign(MIN, '/', 1, MIN);
        sign(7, '%', 3, 1);
        sign(-7, '%', 3, -1);
        sign(7, '%', -3, 1);
        sign(-7, '%', -3, -1);
        sign(7, '%', 0, 0);
        sign(-7, '%', 0, 0);
        sign(0, '%', 0, 0);
        sign(MIN, '%', 0, 0);
        sign(MIN, '%', -1, 0);
        sign(MIN, '%', MAX, -1);
        int[][] pairs = {{1, 2}, {2, 2}, {2, 1}, {-1, 0}, {MIN, MAX}, {MAX, MIN}, {MIN, MIN}, {MAX, MAX}, {-1, 1}, {0, MIN}, {-2, -1}};
        for (int[] pair : pairs) {
            sign(pair[0], '<', pair[1], pair[0] < pair[1] ? 1 : 0);
            sign(pair[0], '>', pair[1], pair[0] > pair[1] ? 1 : 0);
            sign(pair[0], '=', pair[1], pair[0] == pair[1] ? 1 : 0);
        }
    }

    /** "signs take the second, then the first" */
    private static void signsTakeTheSecondFirst() {
        sign(10, '-', 3, 7);
        sign(10, '/', 3, 3);
        sign(10, '%', 3, 1);
        sign(10, '<', 3, 0);
        sign(10, '>', 3, 1);
    }

    /** "ZERO takes one off and goes on there if it is 0" */
    private static void zero() {
        int[] values = {0, 1, -1, MIN, MAX, 256, 65536};
        for (int value : values) {
            StrangerHall hall = hallOf("if m[1]{a=1;}b=2;");
            hall.memory(0, 1, value);
            Check.is("P8 ZERO by " + value, hall.cell(0, 3, PLACE), value == 0 ? 5 : 3);
            Check.is("P8 it takes " + value + " off", hall.cell(0, 3, PILED), 0);
            Check.is("P8 0 where it lay", hall.cell(0, 3, PILE), 0);
            Check.is("P8 a by " + value, hall.cell(0, 20000, A), value == 0 ? 0 : 1);
            Check.is("P8 b by " + value, hall.cell(0, 20000, B), 2);
        }
    }

    /** "Each goes on at the next place, but JUMP and ZERO" */
    private static void jump() {
        StrangerHall hall = hallOf("if 1{}else{a=5;}b=6;");
        int[] places = {0, 1, 2, 5, 6, 7, 7};
        for (int steps = 0; steps < places.length; steps++) {
            Check.is("P8 the place behind " + steps, hall.cell(0, steps, PLACE), places[steps]);
        }
        Check.is("P7 a JUMP is a step", hall.length(0), 5);
        StrangerHall back = hallOf("while 1{}");
        int[] backs = {0, 1, 2, 0, 1, 2, 0};
        for (int steps = 0; steps < backs.length; steps++) {
            Check.is("P8 the place in a round behind " + steps, back.cell(0, steps, PLACE), backs[steps]);
        }
    }

    /** "OUT takes one off: OUTS is one more, OUTSUM 31 times itself and that" */
    private static void out() {
        StrangerHall hall = hallOf("out 5;out 0;out 0-7;");
        Check.is("P8 it takes one off", hall.cell(0, 2, PILED), 0);
        Check.is("P8 0 where it lay", hall.cell(0, 2, PILE), 0);
        Check.is("P8 one out", hall.cell(0, 2, OUTS), 1);
        Check.is("P8 an out of 0 counts", hall.cell(0, 4, OUTS), 2);
        Check.is("P8 and makes 31 times", hall.cell(0, 4, OUT_SUM), 155);
        Check.is("P8 the third", hall.cell(0, 8, OUT_SUM), 155 * 31 - 7);
    }

    private static void outsWrap() {
        StrangerHall hall = hallOf("while a<m[0]{a=a+1;out m[1];}");
        hall.memory(0, 0, 100);
        hall.memory(0, 1, MAX);
        int sum = 0;
        for (int i = 0; i < 100; i++) {
            sum = 31 * sum + MAX;
        }
        Check.is("P8 a hundred outs", hall.cell(0, 20000, OUTS), 100);
        Check.is("P8 their sum wraps", hall.cell(0, 20000, OUT_SUM), sum);
    }

    /** The PILE of a text with as much open as can be: each bracket holds three, and the address ahead one. */
    private static void highestPile() {
        String inner = "1<1+1*";
        StrangerHall hall = hallOf("m[9]=" + (inner + "(").repeat(6) + inner + "2" + ")".repeat(6) + ";");
        int[] cells = cells(hall, 23);
        Check.is("P8 23 lie there", cells[PILED], 23);
        Check.is("P8 the address lies lowest", cells[PILE], 9);
        Check.is("P8 the last one", cells[PILE + 22], 2);
        Check.is("P8 none above it", cells[PILE + 23], 0);
        StrangerHall deep = hallOf("a=" + (inner + "m[").repeat(6) + inner + "2" + "]".repeat(6) + ";");
        Check.is("P8 22 lie there", deep.cell(0, 22, PILED), 22);
        Check.is("P8 all are taken off", deep.cell(0, 20000, PILED), 0);
    }

    /** "HALT changes nothing" */
    private static void haltChangesNothing() {
        StrangerHall hall = hallOf("m[1]=2;out 3;");
        Check.is("P7 length", hall.length(0), 5);
        int[] last = cells(hall, 5);
        int[] behind = {6, 7, 19999, 20000};
        for (int steps : behind) {
            Check.is("P9 the sum at " + steps, hall.sum(0, steps), hall.sum(0, 5));
            for (int cell : new int[] {PLACE, PILED, OUTS, OUT_SUM, MEMORY + 1}) {
                Check.is("P8 cell " + cell + " at " + steps, hall.cell(0, steps, cell), last[cell]);
            }
        }
        Check.is("P9 one step ahead it differs", hall.sum(0, 4) == hall.sum(0, 5), false);
    }

    private static void emptyTask() {
        StrangerHall hall = hallOf("");
        Check.is("P7 at HALT at once", hall.length(0), 0);
        Check.is("P8 its place", hall.cell(0, 20000, PLACE), 0);
        Check.is("P9 its sums", hall.sum(0, 20000), hall.sum(0, 0));
        Check.is("P13 no piece", hall.cut(0, 10), -3);
        Check.is("P30 no out", hall.out(0, 0, 0), 0);
    }

    /** "20,000 at most: else it never ends" */
    private static void lengths() {
        // 19,985 steps of 1,998 rounds, with 3 for each b=m[0]; and 2 for each b=1;
        Check.is("P7 19999", rounds(1998, "b=1;".repeat(7)).length(0), 19999);
        StrangerHall most = rounds(1998, "b=m[0];b=m[0];b=m[0];b=m[0];out 8;");
        Check.is("P7 19985 + 12 + 2", most.length(0), 19999);
        StrangerHall exact = rounds(1998, "b=m[0];b=1;b=1;b=1;b=1;b=1;out 8;");
        Check.is("P7 20000", exact.length(0), 20000);
        Check.is("P8 its out is step 20000", exact.cell(0, 19999, OUTS), 0);
        Check.is("P8 told there", exact.cell(0, 20000, OUTS), 1);
        Check.is("P30 out of it", exact.out(0, 0, 0), 8);
        Check.is("P13 one piece", exact.cut(0, 20000), 1);
        StrangerHall over = rounds(1998, "out 9;" + "b=1;".repeat(7));
        Check.is("P7 20001", over.length(0), -1);
        Check.is("P8 it stands ahead of HALT", over.cell(0, 20000, PLACE), 25);
        Check.is("P8 its out told", over.cell(0, 20000, OUT_SUM), 9);
        Check.is("P30 no out of it", over.out(0, 0, 0), 0);
        Check.is("P13 not to be cut", over.cut(0, 20000), -2);
        StrangerHall told = rounds(1999, "");
        Check.is("P7 19995", told.length(0), 19995);
        told.memory(0, 0, 2000);
        Check.is("P7 20005", told.length(0), -1);
        told.memory(0, 0, 0);
        Check.is("P7 5", told.length(0), 5);
        told.memory(0, 0, -1);
        Check.is("P7 5 by -1", told.length(0), 5);
        Check.is("P7 2", hallOf("a=1;").length(0), 2);
        Check.is("P7 never", hallOf("while 1{a=a+1;}").length(0), -1);
    }

    /** "STEPS are not 0 to 20,000 (so below)" */
    private static void stepBounds() {
        StrangerHall hall = hallOf("a=1;");
        hall.house(0);
        int[] good = {0, 20000};
        for (int steps : good) {
            int[] cells = cells(hall, steps);
            Check.is("P8 cell at " + steps, cells[A], steps == 0 ? 0 : 1);
            Check.is("P9 sum at " + steps, hall.sum(0, steps), treeSum(cells, 0, 16));
            Check.is("P10 beside at " + steps, hall.beside(0, steps, 1, 0), pageSum(cells, 0));
            Check.is("P12 shown at " + steps, hall.shown(0, steps, 0, pageSum(cells, 0)), true);
        }
        int[] wrong = {-1, 20001, MIN, MAX};
        for (int steps : wrong) {
            Check.noValue("P8 steps " + steps, () -> hall.cell(0, steps, 0));
            Check.noValue("P9 steps " + steps, () -> hall.sum(0, steps));
            Check.noValue("P10 steps " + steps, () -> hall.beside(0, steps, 0, 0));
            Check.noValue("P12 steps " + steps, () -> hall.shown(0, steps, 0, 0) ? 1 : 0);
            Check.noValue("P23 steps " + steps, () -> hall.trial(0, 0, steps, 0) ? 1 : 0);
        }
    }

    /** "IllegalArgumentException: no such CELL" */
    private static void cellBounds() {
        StrangerHall hall = hallOf("m[63]=8;");
        Check.is("P8 the first", hall.cell(0, 3, 0), 3);
        Check.is("P8 the last", hall.cell(0, 3, 127), 8);
        int[] wrong = {-1, 128, MIN, MAX};
        for (int cell : wrong) {
            Check.noValue("P8 cell " + cell, () -> hall.cell(0, 0, cell));
        }
    }

    /** The answers don't hang on which state was asked for before. */
    private static void statesAfterEachOther() {
        StrangerHall hall = hallOf("a=3;while a>0{m[a]=a*a;out a;a=a-1;}");
        Check.task(hall, 0, "h=7;while 1{h=h*3;m[h]=h;}");
        int[][] first = new int[40][2];
        for (int steps = 39; steps >= 0; steps--) {
            first[steps][0] = hall.sum(0, steps);
            first[steps][1] = hall.sum(1, steps);
        }
        for (int steps = 0; steps < 40; steps++) {
            Check.is("P9 the sum forwards at " + steps, hall.sum(0, steps), first[steps][0]);
        }
        for (int steps = 0; steps < 40; steps++) {
            Check.is("P9 the other task's at " + steps, hall.sum(1, steps), first[steps][1]);
        }
        hall.out(1, 2, 0);
        Check.is("P9 behind a part's run", hall.sum(1, 39), first[39][1]);
        hall.length(0);
        Check.is("P9 behind its length", hall.sum(0, 20), first[20][0]);
    }

    /** "The SUM of a PAGE: 17, then for each CELL 31 times that and the CELL" */
    private static void pageSums() {
        StrangerHall hall = hallOf("");
        int seventeen = 17;
        for (int i = 0; i < 8; i++) {
            seventeen *= 31;
        }
        Check.is("P10 a page of nothing", hall.beside(0, 0, 14, 0), seventeen);
        hall.memory(0, 63, 1);
        Check.is("P10 the last cell of the last page", hall.beside(0, 0, 14, 0), seventeen + 1);
        hall.memory(0, 63, 0);
        hall.memory(0, 62, 1);
        Check.is("P10 the cell ahead of it", hall.beside(0, 0, 14, 0), seventeen + 31);
        hall.memory(0, 62, 0);
        hall.memory(0, 56, 1);
        Check.is("P10 the first cell of the last page", hall.beside(0, 0, 14, 0), seventeen + 27512614111L % (1L << 32));
        hall.memory(0, 56, 0);
        hall.memory(0, 55, 1);
        Check.is("P10 the page ahead", hall.beside(0, 0, 15, 0), seventeen + 1);
        Check.is("P10 not the last page", hall.beside(0, 0, 14, 0), seventeen);
    }

    private static StrangerHall full() {
        StrangerHall hall = hallOf("a=m[1]*m[2];m[m[3]]=a-m[4];h=1<1+1*(1<1+1*(2-m[63]));out h;");
        for (int place = 0; place < 64; place++) {
            hall.memory(0, place, place * 0x9E3779B9 + 12345);
        }
        return hall;
    }

    /** "PAGES two by two, these two by two, to one: the STATE's SUM" */
    private static void sumOfState() {
        Check.is("P9 of nothing", hallOf("").sum(0, 0), treeSum(new int[128], 0, 16));
        int[] steps = {0, 1, 9, 22, 34, 20000};
        for (int at : steps) {
            StrangerHall hall = full();
            Check.is("P9 sum at " + at, hall.sum(0, at), treeSum(cells(hall, at), 0, 16));
        }
        // Each cell that a call can change changes the sum.
        for (int place = 0; place < 64; place++) {
            StrangerHall hall = hallOf("");
            int before = hall.sum(0, 0);
            hall.memory(0, place, 1);
            Check.is("P9 with place " + place, hall.sum(0, 0) == before, false);
        }
    }

    /** "(All wrap.)" */
    private static void sumsWrap() {
        StrangerHall hall = hallOf("");
        for (int place = 0; place < 64; place++) {
            hall.memory(0, place, place % 3 == 0 ? MIN : MAX);
        }
        Check.is("P9 sum", hall.sum(0, 0), treeSum(cells(hall, 0), 0, 16));
        Check.is("P10 the last page", hall.beside(0, 0, 14, 0), pageSum(cells(hall, 0), 15));
    }

    /** "level 0 that of the PAGE beside it, 3 the last" */
    private static void beside() {
        StrangerHall hall = full();
        int[] cells = cells(hall, 22);
        for (int page = 0; page < 16; page++) {
            Check.is("P10 level 0 of " + page, hall.beside(0, 22, page, 0), pageSum(cells, page % 2 == 0 ? page + 1 : page - 1));
            Check.is("P10 level 1 of " + page, hall.beside(0, 22, page, 1), treeSum(cells, page % 4 < 2 ? page / 4 * 4 + 2 : page / 4 * 4, 2));
            Check.is("P10 level 2 of " + page, hall.beside(0, 22, page, 2), treeSum(cells, page % 8 < 4 ? page / 8 * 8 + 4 : page / 8 * 8, 4));
            Check.is("P10 level 3 of " + page, hall.beside(0, 22, page, 3), treeSum(cells, page < 8 ? 8 : 0, 8));
        }
    }

    /** "no such PAGE, level, or STEPS" */
    private static void besideBounds() {
        StrangerHall hall = hallOf("");
        int[] pages = {-1, 16, MIN, MAX};
        int[] levels = {-1, 4, MIN, MAX};
        for (int i = 0; i < 4; i++) {
            int page = pages[i];
            int level = levels[i];
            Check.noValue("P10 page " + page, () -> hall.beside(0, 0, page, 0));
            Check.noValue("P10 level " + level, () -> hall.beside(0, 0, 0, level));
        }
    }

    /** "1,000,003 times the left, and 7 times the right, and 1" */
    private static void both() {
        StrangerHall hall = new StrangerHall();
        Check.is("P11 nothing", hall.both(0, 0), 1);
        Check.is("P11 left", hall.both(1, 0), 1000004);
        Check.is("P11 right", hall.both(0, 1), 8);
        Check.is("P11 -1", hall.both(-1, -1), -1000009);
        int[] numbers = {MIN, MAX, 2147, 2148, -2148, 306783378, 306783379, 123456789};
        for (int left : numbers) {
            for (int right : numbers) {
                long whole = 1000003L * left + 7L * right + 1;
                Check.is("P11 both(" + left + ", " + right + ")", hall.both(left, right), (int) whole);
            }
        }
    }

    /** "with the SUM of a PAGE (told) and what lies beside (as it is): whether they make the STATE's SUM" */
    private static void shown() {
        StrangerHall hall = full();
        int[] cells = cells(hall, 22);
        for (int page = 0; page < 16; page++) {
            int sum = pageSum(cells, page);
            Check.is("P12 page " + page, hall.shown(0, 22, page, sum), true);
            int[] others = {sum + 1, sum - 1, sum ^ MIN, sum ^ 65536, -sum, 0, pageSum(cells, page ^ 1), pageSum(cells, 15 - page)};
            for (int other : others) {
                Check.is("P12 page " + page + " by " + other, hall.shown(0, 22, page, other), other == sum);
            }
            Check.is("P12 by another state's", hall.shown(0, 21, page, sum), pageSum(cells(full(), 21), page) == sum);
        }
        StrangerHall alike = hallOf("");
        int sum = pageSum(cells(alike, 0), 0);
        for (int page = 0; page < 16; page++) {
            Check.is("P12 alike, page " + page, alike.shown(0, 0, page, sum), true);
        }
    }

    /** "no such PAGE, or STEPS" */
    private static void shownBounds() {
        StrangerHall hall = hallOf("");
        int[] pages = {-1, 16, MIN, MAX};
        for (int page : pages) {
            Check.noValue("P12 page " + page, () -> hall.shown(0, 0, page, 0) ? 1 : 0);
        }
    }
}
