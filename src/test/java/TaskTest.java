/** Promises 1 to 5 and 27: a new object, the tape, texts and their code. */
public final class TaskTest {
    public static void main(String[] args) {
        newObject();
        tape();
        taskNumbers();
        taskRefusals();
        faults();
        brackets();
        longCode();
        faultPlace();
        code();
        codeEdges();
        linear();
        Check.end();
    }

    private static void newObject() {
        StrangerHall hall = new StrangerHall();
        for (int what = 0; what <= 7; what++) {
            Check.is("P1 count(" + what + ")", hall.count(what), 0);
        }
        Check.is("P1 NONE", StrangerHall.NONE, -1);
        Check.is("P4 fault() at first", hall.fault(), -1);
        Check.noPlace("P1 purse(0)", () -> hall.purse(0));
        Check.noPlace("P1 told(0, 0)", () -> hall.told(0, 0));
        Check.is("P1 rule(0, 10)", hall.rule(0, 10), 10);
        Check.is("P1 rule(1, 5)", hall.rule(1, 5), 5);
        Check.is("P1 rule(2, 50)", hall.rule(2, 50), 50);
    }

    private static void tape() {
        StrangerHall hall = new StrangerHall();
        for (int i = 1; i <= 20; i++) {
            Check.is("P2 feed " + i, hall.feed(0x20202020, 0x20202020, 0x20202020, 0x20202020, 0x20202020), 20 * i);
        }
        Check.is("P2 feed too much", hall.feed(0x61616161, 0, 0, 0, 0), -1);
        Check.is("P2 count(6)", hall.count(6), 400);
        Check.is("P2 only blanks were fed", hall.task(0, 400), 0);
        Check.is("P2 the tape is empty then", hall.count(6), 0);
        // The highest byte of each number comes first, and the numbers come in order.
        hall.feed(0x613D3132, 0x3B623D33, 0x3B633D34, 0x3B643D35, 0x3B653D36);
        Check.is("P2 text of five numbers", hall.task(0, 17), 1);
        Check.is("P2 a = 12", hall.code(1, 0, 1), 12);
        Check.is("P2 d = 5", hall.code(1, 6, 1), 5);
        // Bytes from 128 on stand for themselves, not for signs below.
        hall.feed(0xE13D313B, 0, 0, 0, 0);
        Check.is("P2 a byte of 225", hall.task(0, 4), -9);
        Check.is("P2 its place", hall.fault(), 0);
    }

    private static void taskNumbers() {
        StrangerHall hall = new StrangerHall();
        Check.is("P3 empty text", hall.task(1000000, 0), 0);
        Check.is("P3 its purse", hall.purse(0), 1000000);
        for (int i = 1; i < 6; i++) {
            Check.is("P3 task " + i, Check.task(hall, i, "out " + i + ";"), i);
        }
        Check.is("P3 count(1)", hall.count(1), 6);
        Check.is("P3 a seventh with a fault", Check.task(hall, 0, "x"), -1);
        Check.is("P4 fault() of a seventh", hall.fault(), -1);
        Check.is("P3 the tape is empty then", hall.count(6), 0);
        Check.is("P3 still 6", hall.count(1), 6);
        Check.is("P3 the empty task", hall.length(0), 0);
    }

    private static void taskRefusals() {
        StrangerHall hall = new StrangerHall();
        Check.task(hall, 0, "a=;");
        Check.feed(hall, "a=1;");
        Check.noValue("P3 purse -1", () -> hall.task(-1, 4));
        Check.noValue("P3 purse too high", () -> hall.task(1000001, 4));
        Check.noValue("P3 n -1", () -> hall.task(0, -1));
        Check.noValue("P3 n 21", () -> hall.task(0, 21));
        Check.is("P3 the tape is kept", hall.count(6), 20);
        Check.is("P4 the fault is kept", hall.fault(), 2);
        Check.is("P3 the first 4 bytes", hall.task(0, 4), 0);
        Check.is("P4 without a fault", hall.fault(), -1);
        Check.noValue("P3 n above the empty tape", () -> hall.task(0, 1));
        Check.feed(hall, "a=1;");
        Check.is("P3 zero bytes can't stand", hall.task(0, 20), -9);
        Check.is("P4 at the first zero byte", hall.fault(), 4);
    }

    private static void faults() {
        fault("", 0, -1);
        fault("   ", 0, -1);
        fault(" a = 1 ; ", 0, -1);
        fault("a=1;b=2;", 0, -1);
        fault("a=1;b=2", 1, 7);
        fault("a=1;b=2   ", 1, 10);
        fault("a", 1, 1);
        fault("a=", 1, 2);
        fault("a=1 2;", 1, 4);
        fault("a=b c;", 1, 4);
        fault("a=bc;", 1, 2);
        fault("ab=1;", 1, 0);
        fault("az=1;", 1, 0);
        fault("a=bz;", 1, 2);
        fault("a`=1;", 1, 1);
        fault("i=1;", 1, 0);
        fault("h=1;", 0, -1);
        fault("a=i;", 1, 2);
        fault("a=h;", 0, -1);
        fault("A=1;", 1, 0);
        fault("3=a;", 1, 0);
        fault(";", 1, 0);
        fault("}", 1, 0);
        fault("a=1;}", 1, 4);
        fault("a=1;;", 1, 4);
        fault("m=1;", 1, 1);
        fault("m[1]=2;", 0, -1);
        fault("m [ 1 ] = 2 ;", 0, -1);
        fault("m[]=2;", 1, 2);
        fault("m[1=2;", 1, 5);
        fault("m(1)=2;", 1, 1);
        fault("a=m;", 1, 3);
        fault("a=m[1;", 1, 5);
        fault("a=(1;", 1, 4);
        fault("a=();", 1, 3);
        fault("a=1+;", 1, 4);
        fault("a=-1;", 1, 2);
        fault("a=1--1;", 1, 4);
        fault("a=b=c;", 0, -1);
        fault("a=1<2>3=4;", 0, -1);
        fault("a==1;", 1, 2);
        fault("a=1<=2;", 1, 4);
        fault("out;", 1, 3);
        fault("out 1", 1, 5);
        fault("out1;", 0, -1);
        fault("outa;", 1, 0);
        fault("ou t 1;", 1, 0);
        fault("out out;", 1, 4);
        fault("a=while;", 1, 2);
        fault("while 1{}", 0, -1);
        fault("while(1){a=1;}", 0, -1);
        fault("while{}", 1, 5);
        fault("while 1;", 1, 7);
        fault("while 1{", 1, 8);
        fault("while 1{a=1;", 1, 12);
        fault("while 1{a=1}", 1, 11);
        fault("if 1{}else{}", 0, -1);
        fault("if 1{} else {a=1;} b=2;", 0, -1);
        fault("if 1{}else a=1;", 1, 11);
        fault("if 1{}elsea{}", 1, 6);
        fault("else{}", 1, 0);
        fault("while 1{}else{}", 1, 9);
        fault("if 1{}else{}else{}", 1, 12);
        fault("a=99999;", 0, -1);
        fault("a=100000;", 2, 2);
        fault("a=0000000000000000012;", 0, -1);
        fault("a=4294967297;", 2, 2);
        fault("a=99999999999999999999999999999;", 2, 2);
        fault("a=1+ 100000 $", 2, 5);
        fault("m[100000]=1;", 2, 2);
        fault("m[1]=100000;", 2, 5);
        fault("out 100000;", 2, 4);
        fault("while 100000{}", 2, 6);
        fault("while 1{a=100000;}", 2, 10);
        fault("if 100000{}", 2, 3);
        fault("if 1{a=100000;}", 2, 7);
        fault("if 1{}else{a=100000;}", 2, 13);
        fault("if 1{}a=100000;", 2, 8);
        fault("a=1 100000;", 1, 4);
        fault("a=$100000;", 1, 2);
        fault("a=1\t;", 1, 3);
        fault("a\n=1;", 1, 1);
        fault("a=1;?", 1, 4);
        fault("{a=1;}", 1, 0);
    }

    private static void brackets() {
        fault("a=((((((1))))));", 0, -1);
        fault("a=(((((((1)))))));", 3, 8);
        fault("a=((((((1))))))+((((((1))))));", 0, -1);
        fault("a=(((((m[1])))));", 0, -1);
        fault("a=((((((m[1]))))));", 3, 9);
        fault("m[m[m[m[m[m[1]]]]]]=1;", 0, -1);
        fault("m[m[m[m[m[m[m[1]]]]]]]=1;", 3, 13);
        fault("if 1{if 1{if 1{if 1{if 1{if 1{}}}}}}", 0, -1);
        fault("if 1{if 1{if 1{if 1{if 1{if 1{if 1{}}}}}}}", 3, 34);
        fault("if 1{if 1{if 1{if 1{if 1{if 1{a=1;}}}}}}", 0, -1);
        fault("if 1{if 1{if 1{if 1{if 1{if 1{a=(1);}}}}}}", 3, 32);
        fault("if 1{if 1{if 1{if 1{if 1{if 1{m[1]=1;}}}}}}", 3, 31);
        // Where the bracket can't stand at all, the least fault of both is told.
        fault("if 1{if 1{if 1{if 1{if 1{if 1{{}}}}}}}", 1, 30);
        fault("if 1{if 1{if 1{if 1{if 1{if 1{a=1(;}}}}}}", 1, 33);
        fault("a=((((((1{", 1, 9);
    }

    private static void longCode() {
        fault("a=3;".repeat(99), 0, -1);
        fault("a=m[1]" + "+1".repeat(98) + ";", 0, -1);
        fault("a=1" + "+1".repeat(99) + ";", 4, 202);
        fault("a=3;".repeat(98) + "a=1+1;", 4, 398);
        fault("a=3;".repeat(98) + "a=1+1; ", 4, 399);
        fault("a=3;".repeat(100), 4, 400);
        fault("a=3;".repeat(99) + "a=3", 1, 399);
        fault("a=3;".repeat(99) + "out", 1, 399);
    }

    private static void fault(String text, int fault, int place) {
        StrangerHall hall = new StrangerHall();
        Check.is("P3 task(0, \"" + text + "\")", Check.task(hall, 0, text), fault == 0 ? 0 : fault - 10);
        Check.is("P4 fault() of \"" + text + "\"", hall.fault(), place);
        Check.is("P3 count(1) with \"" + text + "\"", hall.count(1), fault == 0 ? 1 : 0);
        Check.is("P3 the tape after \"" + text + "\"", hall.count(6), 0);
    }

    private static void faultPlace() {
        StrangerHall hall = new StrangerHall();
        Check.task(hall, 0, "a=1;b");
        Check.is("P4 place", hall.fault(), 5);
        Check.is("P4 place again", hall.fault(), 5);
        Check.task(hall, 0, "a=1;");
        Check.is("P4 no fault any more", hall.fault(), -1);
    }

    /** Steps are told as pairs of which and its number. */
    private static void code(String text, int... due) {
        StrangerHall hall = new StrangerHall();
        Check.is("P3 task(\"" + text + "\")", Check.task(hall, 0, text), 0);
        for (int k = 0; k < due.length / 2; k++) {
            Check.is("P5 code(0, " + k + ", 0) of \"" + text + "\"", hall.code(0, k, 0), due[2 * k]);
            Check.is("P5 code(0, " + k + ", 1) of \"" + text + "\"", hall.code(0, k, 1), due[2 * k + 1]);
        }
        Check.is("P5 code behind \"" + text + "\"", hall.code(0, due.length / 2, 0), -1);
        Check.is("P5 number behind \"" + text + "\"", hall.code(0, due.length / 2, 1), -1);
    }

    private static void code() {
        code("", 0, 0);
        code("a=99999;", 1, 99999, 3, 0, 0, 0);
        code("h=00012;", 1, 12, 3, 7, 0, 0);
        code("out b;", 2, 1, 16, 0, 0, 0);
        code("a=m[b];", 2, 1, 4, 0, 3, 0, 0, 0);
        code("m[1]=c;", 1, 1, 2, 2, 5, 0, 0, 0);
        code("m[m[1]]=m[2];", 1, 1, 4, 0, 1, 2, 4, 0, 5, 0, 0, 0);
        code("out 1+2-3*4/5%6<7>8=9;",
            1, 1, 1, 2, 6, 0, 1, 3, 1, 4, 8, 0, 1, 5, 9, 0, 1, 6, 10, 0, 7, 0,
            1, 7, 11, 0, 1, 8, 12, 0, 1, 9, 13, 0, 16, 0, 0, 0);
        code("out 1-(2-3);", 1, 1, 1, 2, 1, 3, 7, 0, 7, 0, 16, 0, 0, 0);
        code("out (1<2)*3;", 1, 1, 1, 2, 11, 0, 1, 3, 8, 0, 16, 0, 0, 0);
        code("while a{b=1;}c=2;", 2, 0, 15, 5, 1, 1, 3, 1, 14, 0, 1, 2, 3, 2, 0, 0);
        code("c=2;while a{}", 1, 2, 3, 2, 2, 0, 15, 5, 14, 2, 0, 0);
        code("if a{b=1;}c=2;", 2, 0, 15, 4, 1, 1, 3, 1, 1, 2, 3, 2, 0, 0);
        code("if a{b=1;}else{b=2;}c=3;", 2, 0, 15, 5, 1, 1, 3, 1, 14, 7, 1, 2, 3, 1, 1, 3, 3, 2, 0, 0);
        code("if a{}else{}", 2, 0, 15, 3, 14, 3, 0, 0);
        code("while a{if b{out 1;}}", 2, 0, 15, 7, 2, 1, 15, 6, 1, 1, 16, 0, 14, 0, 0, 0);
    }

    private static void codeEdges() {
        StrangerHall hall = new StrangerHall();
        Check.noPlace("P5 no task", () -> hall.code(0, 0, 0));
        Check.task(hall, 0, "a=1;");
        Check.is("P5 k -1", hall.code(0, -1, 0), -1);
        Check.is("P5 k very low", hall.code(0, Integer.MIN_VALUE, 1), -1);
        Check.is("P5 k very high", hall.code(0, Integer.MAX_VALUE, 1), -1);
        Check.noValue("P5 what 2", () -> hall.code(0, 0, 2));
        Check.noValue("P5 what -1", () -> hall.code(0, 0, -1));
        Check.noValue("P5 what 2 and no such step", () -> hall.code(0, 99, 2));
        Check.noPlace("P5 task -1", () -> hall.code(-1, 0, 0));
        Check.noPlace("P5 task 1", () -> hall.code(1, 0, 2));
    }

    private static void linear(String text, int due) {
        StrangerHall hall = new StrangerHall();
        Check.is("P3 task(\"" + text + "\")", Check.task(hall, 0, text), 0);
        Check.is("P27 linear of \"" + text + "\"", hall.linear(0), due);
    }

    private static void linear() {
        linear("", -1);
        linear("  ", -1);
        linear("out m[1];", -1);
        linear(" out  m [ 1 ] ; ", -1);
        linear("out 3*m[1];", -1);
        linear("out m[1]-3*m[99999]+m[0];out m[2];", -1);
        linear("out 3;", 5);
        linear("out 3+m[1];", 5);
        linear("out m[1]*3;", 8);
        linear("out m[1]+3;", 10);
        linear("out 3*4*m[1];", 6);
        linear("out 3*a;", 6);
        linear("out a;", 4);
        linear("out m[a];", 6);
        linear("out m[1+1];", 7);
        linear("out m[m[1]];", 6);
        linear("out (m[1]);", 4);
        linear("out m[1]=2;", 8);
        linear("out m[1]<2;", 8);
        linear("out m[1]/2;", 8);
        linear("a=1;", 0);
        linear("  a=1;", 2);
        linear("out m[1];  m[1]=2;", 11);
        linear("while 1{}", 0);
        linear("if 1{}", 0);
        StrangerHall hall = new StrangerHall();
        Check.noPlace("P27 no task", () -> hall.linear(0));
        Check.noPlace("P27 task -1", () -> hall.linear(-1));
    }
}
