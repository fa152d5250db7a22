/** Promises 6 to 12: memory, states, their sums and pages. */
public final class MachineTest {
    private static final int PLACE = 0;
    private static final int PILED = 1;
    private static final int OUTS = 2;
    private static final int OUT_SUM = 3;
    private static final int A = 4;
    private static final int PILE = 32;
    private static final int MEMORY = 64;

    public static void main(String[] args) {
        memory();
        signs();
        addresses();
        pile();
        outs();
        branches();
        length();
        cellEdges();
        sums();
        pages();
        both();
        Check.end();
    }

    private static StrangerHall hallOf(String text) {
        StrangerHall hall = new StrangerHall();
        Check.is("task(\"" + text + "\")", Check.task(hall, 0, text), 0);
        return hall;
    }

    private static void memory() {
        StrangerHall hall = hallOf("out m[0];a=m[63];out a;out a;out a;out a;");
        Check.is("P6 memory(0, 0, 7)", hall.memory(0, 0, 7), 1);
        Check.is("P6 cell", hall.cell(0, 0, MEMORY), 7);
        Check.is("P6 memory(0, 63, MIN)", hall.memory(0, 63, Integer.MIN_VALUE), 1);
        Check.is("P6 cell at the end", hall.cell(0, 20, A), Integer.MIN_VALUE);
        Check.is("P6 told anew", hall.memory(0, 63, 5), 1);
        Check.is("P6 cell told anew", hall.cell(0, 20, A), 5);
        Check.noValue("P6 place -1", () -> hall.memory(0, -1, 1));
        Check.noValue("P6 place 64", () -> hall.memory(0, 64, 1));
        Check.noPlace("P6 no task", () -> hall.memory(1, 64, 1));
        Check.noPlace("P6 task -1", () -> hall.memory(-1, 0, 1));
        Check.is("P13 cut", hall.cut(0, 10), 2);
        Check.is("P6 once cut", hall.memory(0, 0, 8), -1);
        Check.is("P6 nothing changed", hall.cell(0, 0, MEMORY), 7);
        Check.noValue("P6 once cut, no place", () -> hall.memory(0, 64, 8));
    }

    private static void value(String expression, int due) {
        StrangerHall hall = hallOf("a=" + expression + ";");
        hall.memory(0, 1, Integer.MIN_VALUE);
        hall.memory(0, 2, -7);
        Check.is("P8 a=" + expression, hall.cell(0, 20000, A), due);
    }

    private static void signs() {
        value("3-5", -2);
        value("2-3-4", -5);
        value("2+3*4", 14);
        value("(2+3)*4", 20);
        value("m[1]-1", Integer.MAX_VALUE);
        value("99999*99999", 99999 * 99999);
        value("7/2", 3);
        value("m[2]/2", -3);
        value("m[2]%2", -1);
        value("m[2]%3", -1);
        value("7%(0-3)", 1);
        value("7/0", 0);
        value("7%0", 0);
        value("m[1]/(0-1)", Integer.MIN_VALUE);
        value("m[1]%(0-1)", 0);
        value("100/7*7+100%7", 100);
        value("1<2", 1);
        value("2<2", 0);
        value("m[1]<1", 1);
        value("2>1", 1);
        value("2>2", 0);
        value("1>m[1]", 1);
        value("2=2", 1);
        value("2=3", 0);
        value("3>2>1", 0);
        value("1<2=1", 1);
        value("1+1=2", 1);
    }

    private static void addresses() {
        StrangerHall hall = hallOf("m[64]=5;m[0-1]=6;a=m[128]+m[63];m[63+2]=9;");
        Check.is("P8 m[64] is m[0]", hall.cell(0, 20000, MEMORY), 5);
        Check.is("P8 m[-1] is m[63]", hall.cell(0, 20000, MEMORY + 63), 6);
        Check.is("P8 m[128] + m[63]", hall.cell(0, 20000, A), 11);
        Check.is("P8 m[65] is m[1]", hall.cell(0, 20000, MEMORY + 1), 9);
    }

    private static void pile() {
        StrangerHall hall = hallOf("a=1+2*3;");
        int[] piled = {0, 1, 2, 3, 2, 1, 0};
        int[] lowest = {0, 1, 1, 1, 1, 7, 0};
        int[] second = {0, 0, 2, 2, 6, 0, 0};
        for (int steps = 0; steps <= 6; steps++) {
            Check.is("P8 place after " + steps, hall.cell(0, steps, PLACE), steps);
            Check.is("P8 piled after " + steps, hall.cell(0, steps, PILED), piled[steps]);
            Check.is("P8 lowest after " + steps, hall.cell(0, steps, PILE), lowest[steps]);
            Check.is("P8 second after " + steps, hall.cell(0, steps, PILE + 1), second[steps]);
        }
        Check.is("P8 a", hall.cell(0, 6, A), 7);
        Check.is("P8 a before", hall.cell(0, 5, A), 0);
        Check.is("P8 third of the pile", hall.cell(0, 3, PILE + 2), 3);
        StrangerHall poking = hallOf("m[3]=4;");
        Check.is("P8 address below", poking.cell(0, 2, PILE), 3);
        Check.is("P8 value above", poking.cell(0, 2, PILE + 1), 4);
        Check.is("P8 poked", poking.cell(0, 3, MEMORY + 3), 4);
        Check.is("P8 both are off", poking.cell(0, 3, PILED), 0);
        Check.is("P8 nothing lies there", poking.cell(0, 3, PILE) + poking.cell(0, 3, PILE + 1), 0);
        String deep = "m[1]=1<1+1*(1<1+1*(1<1+1*(1<1+1*(1<1+1*(1<1+1*(1<1+1*2))))));";
        Check.is("seven brackets", Check.task(new StrangerHall(), 0, deep.replace("1*2", "(2)")), -7);
        StrangerHall high = hallOf(deep);
        int most = 0;
        for (int steps = 0; steps <= high.length(0); steps++) {
            most = Math.max(most, high.cell(0, steps, PILED));
        }
        Check.is("P8 the highest pile", most, 23);
        Check.is("P8 the pile is empty at the end", high.cell(0, 20000, PILED), 0);
        Check.is("P8 what came out", high.cell(0, 20000, MEMORY + 1), 1);
    }

    private static void outs() {
        StrangerHall hall = hallOf("out 5;out 0-1;out 3;");
        Check.is("P8 outs", hall.cell(0, 20000, OUTS), 3);
        Check.is("P8 sum of outs", hall.cell(0, 20000, OUT_SUM), (5 * 31 - 1) * 31 + 3);
        Check.is("P8 outs after the first", hall.cell(0, 2, OUTS), 1);
        Check.is("P8 sum after the first", hall.cell(0, 2, OUT_SUM), 5);
    }

    private static void branches() {
        String text = "if a{b=1;}else{b=2;}if b=2{c=3;}d=4;while e<3{e=e+1;}";
        StrangerHall hall = hallOf(text);
        Check.is("P8 else", hall.cell(0, 20000, A + 1), 2);
        Check.is("P8 if", hall.cell(0, 20000, A + 2), 3);
        Check.is("P8 behind", hall.cell(0, 20000, A + 3), 4);
        Check.is("P8 while", hall.cell(0, 20000, A + 4), 3);
        StrangerHall taken = hallOf("a=0-1;" + text);
        Check.is("P8 not 0 is taken", taken.cell(0, 20000, A + 1), 1);
        Check.is("P8 if not", taken.cell(0, 20000, A + 2), 0);
        StrangerHall jumping = hallOf("while 1{a=a+1;}");
        Check.is("P8 at the JUMP", jumping.cell(0, 6, PLACE), 6);
        Check.is("P8 behind the JUMP", jumping.cell(0, 7, PLACE), 0);
        Check.is("P8 ZERO goes on", jumping.cell(0, 2, PLACE), 2);
        Check.is("P8 the last state", jumping.cell(0, 20000, A), 2857);
        Check.is("P8 an earlier one", jumping.cell(0, 7, A), 1);
    }

    private static void length() {
        Check.is("P7 empty", hallOf("").length(0), 0);
        Check.is("P7 a=1", hallOf("a=1;").length(0), 2);
        Check.is("P7 never ends", hallOf("while 1{}").length(0), -1);
        // Each round makes 10 steps, each last test of the three 5.
        StrangerHall hall = hallOf("while a<m[0]{a=a+1;}while b<m[1]{b=b+1;}while c<m[2]{}");
        Check.is("P7 no rounds", hall.length(0), 15);
        hall.memory(0, 0, 1998);
        Check.is("P7 1998 rounds of 10", hall.length(0), 15 + 19980);
        hall.memory(0, 0, 1999);
        Check.is("P7 20005 steps", hall.length(0), -1);
        hall.memory(0, 0, 1);
        Check.is("P7 told anew", hall.length(0), 25);
        StrangerHall edge = hallOf("while a<m[0]{a=a+1;}a=1;a=1;if 0{}a=1;a=m[0];");
        edge.memory(0, 0, 1998);
        Check.is("P7 19996 steps", edge.length(0), 19980 + 5 + 2 + 2 + 2 + 2 + 3);
        StrangerHall last = hallOf("while a<m[0]{a=a+1;}b=m[0];b=m[0];b=1;b=1;b=1;b=m[0];");
        last.memory(0, 0, 1998);
        Check.is("P7 20000 steps", last.length(0), 20000);
        Check.is("P13 20000 steps in 1 piece", last.cut(0, 20000), 1);
        StrangerHall over = hallOf("while a<m[0]{a=a+1;}b=m[0];b=m[0];b=m[0];b=m[0];b=m[0];b=1+1;b=1;");
        over.memory(0, 0, 1997);
        Check.is("P7 19996", over.length(0), 19970 + 5 + 15 + 4 + 2);
        StrangerHall beyond = hallOf("while a<m[0]{a=a+1;}b=m[0];b=m[0];b=m[0];b=m[0];b=1+1;");
        beyond.memory(0, 0, 1998);
        Check.is("P7 20001 steps never end", beyond.length(0), -1);
        Check.noPlace("P7 no task", () -> hall.length(1));
        Check.noPlace("P7 task -1", () -> hall.length(-1));
    }

    private static void cellEdges() {
        StrangerHall hall = hallOf("a=1;");
        Check.is("P8 last cell", hall.cell(0, 0, 127), 0);
        Check.is("P8 at HALT", hall.cell(0, 20000, PLACE), 2);
        Check.noValue("P8 cell -1", () -> hall.cell(0, 0, -1));
        Check.noValue("P8 cell 128", () -> hall.cell(0, 0, 128));
        Check.noValue("P8 steps -1", () -> hall.cell(0, -1, 0));
        Check.noValue("P8 steps 20001", () -> hall.cell(0, 20001, 0));
        Check.noPlace("P8 no task", () -> hall.cell(1, -1, -1));
        for (int cell = 12; cell < 32; cell++) {
            Check.is("P8 cell " + cell, hall.cell(0, 2, cell), 0);
        }
    }

    private static int sumOf(StrangerHall hall, int steps, int firstPage, int pages) {
        if (pages == 1) {
            int sum = 17;
            for (int i = 0; i < 8; i++) {
                sum = sum * 31 + hall.cell(0, steps, firstPage * 8 + i);
            }
            return sum;
        }
        int half = pages / 2;
        return 1000003 * sumOf(hall, steps, firstPage, half) + 7 * sumOf(hall, steps, firstPage + half, half) + 1;
    }

    private static void sums() {
        for (int steps = 0; steps < 40; steps += 13) {
            StrangerHall hall = hallOf("m[9]=0-77;b=5;while b>0{m[b*7]=b*b;b=b-1;out m[b]+1;}");
            Check.is("P9 sum after " + steps, hall.sum(0, steps), sumOf(hall, steps, 0, 16));
        }
        StrangerHall hall = hallOf("a=1;");
        Check.is("P9 the last sum", hall.sum(0, 20000), hall.sum(0, 2));
        Check.noValue("P9 steps -1", () -> hall.sum(0, -1));
        Check.noValue("P9 steps 20001", () -> hall.sum(0, 20001));
        Check.noPlace("P9 no task", () -> hall.sum(1, -1));
    }

    private static void pages() {
        String text = "m[9]=0-77;b=5;while b>0{m[b*7]=b*b;b=b-1;}";
        for (int page = 0; page < 16; page += 5) {
            StrangerHall hall = hallOf(text);
            for (int level = 0; level < 4; level++) {
                int size = 1 << level;
                int first = (page / size ^ 1) * size;
                Check.is("P10 beside(0, 20, " + page + ", " + level + ")", hall.beside(0, 20, page, level), sumOf(hall, 20, first, size));
            }
            int sum = sumOf(hall, 20, page, 1);
            Check.is("P12 shown page " + page, hall.shown(0, 20, page, sum), true);
            Check.is("P12 not shown page " + page, hall.shown(0, 20, page, sum + 1), false);
        }
        StrangerHall hall = hallOf(text);
        Check.noValue("P10 page -1", () -> hall.beside(0, 0, -1, 0));
        Check.noValue("P10 page 16", () -> hall.beside(0, 0, 16, 0));
        Check.noValue("P10 level -1", () -> hall.beside(0, 0, 0, -1));
        Check.noValue("P10 level 4", () -> hall.beside(0, 0, 0, 4));
        Check.noValue("P10 steps -1", () -> hall.beside(0, -1, 0, 0));
        Check.noValue("P10 steps 20001", () -> hall.beside(0, 20001, 0, 0));
        Check.noPlace("P10 no task", () -> hall.beside(1, 0, 16, 0));
        Check.noValue("P12 page -1", () -> hall.shown(0, 0, -1, 0) ? 1 : 0);
        Check.noValue("P12 page 16", () -> hall.shown(0, 0, 16, 0) ? 1 : 0);
        Check.noValue("P12 steps -1", () -> hall.shown(0, -1, 0, 0) ? 1 : 0);
        Check.noValue("P12 steps 20001", () -> hall.shown(0, 20001, 0, 0) ? 1 : 0);
        Check.noPlace("P12 no task", () -> hall.shown(-1, 0, 16, 0) ? 1 : 0);
    }

    private static void both() {
        StrangerHall hall = new StrangerHall();
        Check.is("P11 both(0, 0)", hall.both(0, 0), 1);
        Check.is("P11 both(1, 0)", hall.both(1, 0), 1000004);
        Check.is("P11 both(0, 1)", hall.both(0, 1), 8);
        Check.is("P11 both wraps", hall.both(Integer.MAX_VALUE, Integer.MIN_VALUE), 1000003 * Integer.MAX_VALUE + 7 * Integer.MIN_VALUE + 1);
    }
}
