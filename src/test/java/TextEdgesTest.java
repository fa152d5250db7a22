/** Edges of terms 1 and promises 2 to 5, sentence by sentence: the tape, texts, their faults and their code. */
public final class TextEdgesTest {
    public static void main(String[] args) {
        tapeIsFull();
        bytesOfNumbers();
        tasksSixAtMost();
        textsUpTo400Bytes();
        firstBytesOfTheTape();
        purseBounds();
        lengthBounds();
        refusedTaskKeepsTheTape();
        statements();
        expressions();
        numbers();
        variables();
        words();
        blanks();
        cantStand();
        endsTooEarly();
        tooHigh();
        seventhBracket();
        firstFromTheLeft();
        leastOfOnePlace();
        moreThan200Steps();
        faultOfTheLatest();
        codeOfWhole200();
        codeForms();
        codeBounds();
        Check.end();
    }

    private static StrangerHall hallOf(String text) {
        StrangerHall hall = new StrangerHall();
        Check.is("P3 task(\"" + text + "\")", Check.task(hall, 0, text), 0);
        return hall;
    }

    private static void fault(String text, int fault, int place) {
        StrangerHall hall = new StrangerHall();
        Check.is("P3 the fault of \"" + text + "\"", Check.task(hall, 0, text), fault - 10);
        Check.is("P4 the place in \"" + text + "\"", hall.fault(), place);
        Check.is("P3 no task by \"" + text + "\"", hall.count(1), 0);
        Check.is("P3 the tape is empty behind \"" + text + "\"", hall.count(6), 0);
    }

    private static void stands(String text) {
        StrangerHall hall = hallOf(text);
        Check.is("P4 no place in \"" + text + "\"", hall.fault(), -1);
        Check.is("P3 one task by \"" + text + "\"", hall.count(1), 1);
    }

    /** Pairs of which and its number, to the last step. */
    private static void code(String text, int... due) {
        StrangerHall hall = hallOf(text);
        for (int k = 0; k < due.length / 2; k++) {
            Check.is("P5 step " + k + " of \"" + text + "\"", hall.code(0, k, 0), due[2 * k]);
            Check.is("P5 number " + k + " of \"" + text + "\"", hall.code(0, k, 1), due[2 * k + 1]);
        }
        Check.is("P5 none behind \"" + text + "\"", hall.code(0, due.length / 2, 0), -1);
    }

    /** "how many there are; NONE, doing nothing, if there would be more than 400" */
    private static void tapeIsFull() {
        StrangerHall hall = new StrangerHall();
        Check.is("P2 the first 20", hall.feed(0x613D313B, 0x20202020, 0x20202020, 0x20202020, 0x20202020), 20);
        for (int i = 2; i <= 19; i++) {
            hall.feed(0x20202020, 0x20202020, 0x20202020, 0x20202020, 0x20202020);
        }
        Check.is("P31 380 bytes", hall.count(6), 380);
        Check.is("P2 the last 20", hall.feed(0x20202020, 0x20202020, 0x20202020, 0x20202020, 0x623D323B), 400);
        Check.is("P2 the first too much", hall.feed(0x24242424, 0x24242424, 0x24242424, 0x24242424, 0x24242424), -1);
        Check.is("P31 400 bytes still", hall.count(6), 400);
        Check.is("P2 none again", hall.feed(0, 0, 0, 0, 0), -1);
        Check.is("P3 the text is as it was", hall.task(0, 400), 0);
        Check.is("P5 its last number", hall.code(0, 2, 1), 2);
        Check.is("P2 room again", hall.feed(0, 0, 0, 0, 0), 20);
    }

    /** "Twenty bytes come on the TAPE, of each number the highest first" */
    private static void bytesOfNumbers() {
        StrangerHall hall = new StrangerHall();
        hall.feed(0x6F757420, 0x31323334, 0x2B353637, 0x382B3930, 0x2A373B20);
        Check.is("P2 out 1234+5678+90*7;", hall.task(0, 20), 0);
        Check.is("P2 the first number", hall.code(0, 0, 1), 1234);
        Check.is("P2 the second number", hall.code(0, 1, 1), 5678);
        Check.is("P2 the third number", hall.code(0, 3, 1), 90);
        Check.is("P2 the fourth number", hall.code(0, 4, 1), 7);
        // A byte from 128 on makes its number one below 0; each place of a number has its own byte.
        int[] numbers = {0x80202020, 0x20802020, 0x20208020, 0x20202080};
        for (int i = 0; i < 4; i++) {
            for (int k = 0; k < 5; k++) {
                StrangerHall other = new StrangerHall();
                int blank = 0x20202020;
                other.feed(k == 0 ? numbers[i] : blank, k == 1 ? numbers[i] : blank, k == 2 ? numbers[i] : blank,
                    k == 3 ? numbers[i] : blank, k == 4 ? numbers[i] : blank);
                Check.is("P2 byte " + (4 * k + i), other.task(0, 20), -9);
                Check.is("P4 byte " + (4 * k + i), other.fault(), 4 * k + i);
            }
        }
    }

    /** "TASKS, numbered from 0 on, 6 at most"; "-1: there are 6 (ahead of a FAULT; the TAPE is empty then, too)" */
    private static void tasksSixAtMost() {
        StrangerHall hall = new StrangerHall();
        for (int i = 0; i < 5; i++) {
            Check.is("P3 task " + i, Check.task(hall, i, "a=1;"), i);
        }
        Check.is("P3 a fault is no task", Check.task(hall, 0, "a=1"), -9);
        Check.is("P31 five", hall.count(1), 5);
        Check.is("P3 the sixth", Check.task(hall, 5, "a=2;"), 5);
        Check.is("P3 a seventh", Check.task(hall, 6, "a=3;"), -1);
        Check.is("P31 the tape is empty", hall.count(6), 0);
        Check.is("P3 a seventh of no bytes", hall.task(0, 0), -1);
        for (String text : new String[] {"x", "a=100000;", "a=(((((((1", "a=1" + "+1".repeat(99) + ";"}) {
            Check.is("P3 a seventh with a fault", Check.task(hall, 0, text), -1);
            Check.is("P4 it has no place", hall.fault(), -1);
            Check.is("P31 the tape is empty then, too", hall.count(6), 0);
        }
        Check.is("P31 six", hall.count(1), 6);
        Check.is("P5 the last one's code", hall.code(5, 0, 1), 2);
        Check.is("P32 the last one's purse", hall.purse(5), 5);
        Check.noPlace("P32 no seventh", () -> hall.purse(6));
    }

    /** "texts of up to 400 bytes" */
    private static void textsUpTo400Bytes() {
        code("a=" + "0".repeat(395) + "12;", 1, 12, 3, 0, 0, 0);
        code(" ".repeat(396) + "b=3;", 1, 3, 3, 1, 0, 0);
        code("b=3;" + " ".repeat(396), 1, 3, 3, 1, 0, 0);
        stands("h=3;".repeat(99) + "    ");
        fault("a=" + "0".repeat(395) + "123", 1, 400);
        fault(" ".repeat(399) + "$", 1, 399);
        fault("a=" + " ".repeat(392) + "100000", 2, 394);
        stands("");
    }

    /** "The first n bytes of the TAPE (empty then) are a TASK" */
    private static void firstBytesOfTheTape() {
        StrangerHall hall = new StrangerHall();
        Check.feed(hall, "a=1;b=2;c=3;d=4;e=5;f=6;g=7;");
        Check.is("P3 the first 8 of 40", hall.task(0, 8), 0);
        Check.is("P31 the others are gone", hall.count(6), 0);
        Check.is("P5 two statements", hall.code(0, 4, 0), 0);
        Check.is("P3 they are no text later", hall.task(0, 0), 1);
        Check.is("P5 nothing but HALT", hall.code(1, 0, 0), 0);
        Check.feed(hall, "a=1;b=2;c=3;");
        Check.is("P3 no byte of 20", hall.task(0, 0), 2);
        Check.is("P31 all are gone", hall.count(6), 0);
        Check.feed(hall, "h=9;a=1;b=2;c=3;d=4;");
        Check.is("P3 all 20", hall.task(0, 20), 3);
        Check.is("P5 they are not behind older ones", hall.code(3, 0, 1), 9);
        Check.is("P5 five statements", hall.code(3, 10, 0), 0);
        Check.feed(hall, "h=9;a=1;b=2;c=3;d=4;");
        Check.is("P3 what stands behind is not read", hall.task(0, 7), -9);
        Check.is("P4 at the length", hall.fault(), 7);
        // What stands behind belongs to no word, number or sign of the text.
        firstBytes("out m[1];", 1, 1, 0);
        firstBytes("out m[1];", 2, 1, 0);
        firstBytes("out m[1];", 3, 1, 3);
        firstBytes("out m[1];", 5, 1, 5);
        firstBytes("ab=1;", 1, 1, 1);
        firstBytes("a=bc;", 3, 1, 3);
        firstBytes("whilea{}", 5, 1, 5);
        firstBytes("if 1{}elsex{}", 10, 1, 10);
        firstBytes("a=123;", 3, 1, 3);
        firstBytes("a=1000000;", 7, 1, 7);
        firstBytes("a=1000000;", 8, 2, 2);
        firstBytes("a=1;", 3, 1, 3);
        firstBytes("a=1;  $", 6, 0, -1);
        firstBytes("a=1;b=x;", 4, 0, -1);
        firstBytes("a=1+2;", 3, 1, 3);
    }

    private static void firstBytes(String tape, int n, int fault, int place) {
        StrangerHall hall = new StrangerHall();
        Check.feed(hall, tape);
        Check.is("P3 the first " + n + " of \"" + tape + "\"", hall.task(0, n), fault == 0 ? 0 : fault - 10);
        Check.is("P4 the place in the first " + n + " of \"" + tape + "\"", hall.fault(), place);
    }

    /** "IllegalArgumentException: the PURSE is not 0 to 1,000,000" */
    private static void purseBounds() {
        StrangerHall hall = new StrangerHall();
        int[] wrong = {-1, 1000001, Integer.MIN_VALUE, Integer.MAX_VALUE};
        for (int purse : wrong) {
            Check.noValue("P3 a purse of " + purse, () -> hall.task(purse, 0));
        }
        Check.is("P3 no task", hall.count(1), 0);
        Check.is("P3 the least purse", hall.task(0, 0), 0);
        Check.is("P3 the greatest purse", hall.task(1000000, 0), 1);
        Check.is("P32 the least purse", hall.purse(0), 0);
        Check.is("P32 the greatest purse", hall.purse(1), 1000000);
    }

    /** "or n is not 0 to the TAPE's bytes" */
    private static void lengthBounds() {
        StrangerHall hall = new StrangerHall();
        Check.noValue("P3 one byte of none", () -> hall.task(0, 1));
        Check.is("P3 none of none", hall.task(0, 0), 0);
        hall.feed(0x20202020, 0x20202020, 0x20202020, 0x20202020, 0x20202020);
        int[] wrong = {-1, 21, 400, Integer.MIN_VALUE, Integer.MAX_VALUE};
        for (int n : wrong) {
            Check.noValue("P3 n " + n + " of 20", () -> hall.task(0, n));
        }
        Check.is("P3 20 of 20", hall.task(0, 20), 1);
        for (int i = 0; i < 20; i++) {
            hall.feed(0x20202020, 0x20202020, 0x20202020, 0x20202020, 0x20202020);
        }
        Check.noValue("P3 401 of 400", () -> hall.task(0, 401));
        Check.is("P3 400 of 400", hall.task(0, 400), 2);
    }

    /** "(both keep the TAPE)", with six tasks, too */
    private static void refusedTaskKeepsTheTape() {
        StrangerHall hall = new StrangerHall();
        for (int i = 0; i < 5; i++) {
            hall.task(0, 0);
        }
        Check.feed(hall, "g=7;");
        Check.noValue("P3 purse -1", () -> hall.task(-1, 4));
        Check.noValue("P3 n 21", () -> hall.task(0, 21));
        Check.noValue("P3 both", () -> hall.task(1000001, -1));
        Check.is("P31 it is kept", hall.count(6), 20);
        Check.is("P2 it goes on behind it", hall.feed(0, 0, 0, 0, 0), 40);
        Check.is("P3 the kept text", hall.task(0, 4), 5);
        Check.is("P5 the kept text", hall.code(5, 1, 1), 6);
        Check.feed(hall, "g=7;");
        Check.noValue("P3 purse -1 ahead of six tasks", () -> hall.task(-1, 4));
        Check.noValue("P3 n 21 ahead of six tasks", () -> hall.task(0, 21));
        Check.is("P31 it is kept with six tasks", hall.count(6), 20);
    }

    /** "{ S }. S: V = E ; ..." with each sign of a statement left out or doubled */
    private static void statements() {
        String[] good = {"a=1;", "m[1]=2;", "out 1;", "while 1{}", "while 1{a=1;b=2;}", "if 1{}", "if 1{a=1;b=2;}",
            "if 1{}else{}", "if 1{}else{a=1;b=2;}", "a=1;m[1]=2;out 1;while 1{}if 1{}else{}b=2;"};
        for (String text : good) {
            stands(text);
        }
        fault("a 1;", 1, 2);
        fault("=1;", 1, 0);
        fault("m 1]=2;", 1, 2);
        fault("m[1 a=2;", 1, 4);
        fault("m[1 =2;", 1, 6);
        fault("m[1]2;", 1, 4);
        fault("m[1]=;", 1, 5);
        fault("m[1]=2 a=1;", 1, 7);
        fault("m[1]=2=;", 1, 7);
        fault("out=1;", 1, 3);
        fault("out 1 a=1;", 1, 6);
        fault("while 1 a=1;", 1, 8);
        fault("while 1}", 1, 7);
        fault("if 1 a=1;", 1, 5);
        fault("if{}", 1, 2);
        fault("if 1{;}", 1, 5);
        fault("if 1{}else 1{}", 1, 11);
        fault("if 1{}else if 1{}", 1, 11);
        fault("if 1{}a=1;else{}", 1, 10);
        fault("if 1{else{}}", 1, 5);
        fault("if 1{}{}", 1, 6);
        fault("while 1{}while{}", 1, 14);
        fault("else", 1, 0);
        fault("1;", 1, 0);
        fault("(a)=1;", 1, 0);
        fault("[1]=1;", 1, 0);
    }

    /** "E: A { R A }; A: T { + or - T }; T: U { * or / or % U }; U: N; V; m[E]; (E)" */
    private static void expressions() {
        for (char sign : "+-*/%<>=".toCharArray()) {
            stands("a=1" + sign + "2" + sign + "3;");
            fault("a=1" + sign + ";", 1, 4);
            fault("a=" + sign + "1;", 1, 2);
            fault("a=1" + sign + sign + "1;", 1, 4);
            fault("a=(1" + sign + ");", 1, 5);
            fault("a=m[1" + sign + "];", 1, 6);
        }
        for (char sign : "!&|^~,.:?@#$\"'\\_{}[)]".toCharArray()) {
            fault("a=1" + sign + "2;", 1, 3);
        }
        stands("a=m[(m[(1)])];");
        fault("a=(1];", 1, 4);
        fault("a=m[1);", 1, 5);
        fault("a={1};", 1, 2);
        fault("a=[1];", 1, 2);
        fault("a=1(2);", 1, 3);
        fault("a=b(2);", 1, 3);
        fault("a=b[2];", 1, 3);
        fault("a=m[1][2];", 1, 6);
        fault("a=1a;", 1, 3);
        fault("a=b 1;", 1, 4);
    }

    /** "N (digits, as many as stand there, 0 to 99,999)" */
    private static void numbers() {
        code("a=0;", 1, 0, 3, 0, 0, 0);
        code("a=00;", 1, 0, 3, 0, 0, 0);
        code("a=99998;", 1, 99998, 3, 0, 0, 0);
        code("a=99999;", 1, 99999, 3, 0, 0, 0);
        code("a=0099999;", 1, 99999, 3, 0, 0, 0);
        fault("a=100000;", 2, 2);
        fault("a=0100000;", 2, 2);
        fault("a=99999 9;", 1, 8);
        fault("a=9 9999;", 1, 4);
        // The bytes beside 0 and 9 are no digits: 47 is a sign, 58 can't stand.
        code("a=0/9;", 1, 0, 1, 9, 9, 0, 3, 0, 0, 0);
        fault("a=9:;", 1, 3);
        for (int n : new int[] {65536, 100001, 999999}) {
            if (n > 99999) {
                fault("a=" + n + ";", 2, 2);
            } else {
                stands("a=" + n + ";");
            }
        }
        String[] wrapping = {"2147483648", "4294967295", "4294967296", "4294967297", "18446744073709551617", "1000000000000"};
        for (String text : wrapping) {
            fault("a=" + text + ";", 2, 2);
        }
    }

    /** "V: a word of one letter, a to h" */
    private static void variables() {
        for (char letter = 'a'; letter <= 'h'; letter++) {
            code(letter + "=" + letter + ";", 2, letter - 'a', 3, letter - 'a', 0, 0);
        }
        for (char letter = 'i'; letter <= 'z'; letter++) {
            fault(letter + "=1;", 1, letter == 'm' ? 1 : 0);
            fault("a=" + letter + ";", 1, letter == 'm' ? 3 : 2);
        }
        for (char letter = 'A'; letter <= 'Z'; letter++) {
            fault(letter + "=1;", 1, 0);
        }
        fault("a=aa;", 1, 2);
        fault("aa=1;", 1, 0);
        fault("a a=1;", 1, 2);
    }

    /** "WORDS: small letters, as many as stand there" */
    private static void words() {
        fault("outa;", 1, 0);
        fault("outt 1;", 1, 0);
        fault("ou 1;", 1, 0);
        fault("oux 1;", 1, 0);
        fault("o ut 1;", 1, 0);
        fault("whilea{}", 1, 0);
        fault("whil 1{}", 1, 0);
        fault("whilx 1{}", 1, 0);
        fault("ifa{}", 1, 0);
        fault("i f 1{}", 1, 0);
        fault("is 1{}", 1, 0);
        fault("mm[1]=1;", 1, 0);
        fault("a=mm[1];", 1, 2);
        fault("a=out;", 1, 2);
        fault("a=if;", 1, 2);
        fault("a=else;", 1, 2);
        fault("if 1{}elsx{}", 1, 6);
        fault("if 1{}els{}", 1, 6);
        fault("Out 1;", 1, 0);
        fault("oUt 1;", 1, 0);
        // The bytes beside a and z are no letters.
        fault("out`1;", 1, 3);
        stands("while a{}");
        stands("out1;out(1);outm[1];".replace("outm", "out m"));
        stands("while(1){}if(1){}else{}");
        stands("while1{}if1{}");
    }

    /** "blanks (32) may stand ahead of all these, and at the end" */
    private static void blanks() {
        String[] tokens = {"m", "[", "a", "+", "12", "]", "=", "(", "m", "[", "1", "]", ")", ";", "while", "a", "<", "2", "{", "out",
            "1", ";", "}", "if", "1", "{", "}", "else", "{", "}"};
        for (int i = 0; i <= tokens.length; i++) {
            StringBuilder text = new StringBuilder();
            for (int k = 0; k < tokens.length; k++) {
                boolean wanted = k > 0 && Character.isLetterOrDigit(tokens[k].charAt(0)) && Character.isLetterOrDigit(tokens[k - 1].charAt(0));
                text.append(k == i ? "   " : wanted ? " " : "").append(tokens[k]);
            }
            stands(i == tokens.length ? text + "  " : text.toString());
        }
        int[] others = {0, 1, 9, 10, 11, 12, 13, 31, 127, 128, 160, 255};
        for (int other : others) {
            fault("a=1;" + (char) other, 1, 4);
            fault((char) other + "a=1;", 1, 0);
            fault("a=" + (char) other + "1;", 1, 2);
        }
        fault("wh ile 1{}", 1, 0);
        fault("a=1 0;", 1, 4);
        fault("if 1{}el se{}", 1, 6);
    }

    /** "1 what can't stand there", "at its first byte": blanks ahead are none of it, a word or number is one whole */
    private static void cantStand() {
        fault("   ?", 1, 3);
        fault("a=1;   xyz", 1, 7);
        fault("a=1   xyz;", 1, 6);
        fault("a=   ;", 1, 5);
        fault("a=1   234;", 1, 6);
        fault("  12345678=1;", 1, 2);
        fault("a=1;  100000", 1, 6);
    }

    /** "(at the length, if the text ends too early)" */
    private static void endsTooEarly() {
        String whole = "m[a+12]=(m[1]);while a<2{out 1;}if 1{}else{}";
        // Where a whole statement ends, and a text may.
        String goods = ",0,15,32,38,44,";
        for (int n = 0; n <= whole.length(); n++) {
            String text = whole.substring(0, n);
            if (goods.contains("," + n + ",")) {
                stands(text);
                stands(text + "  ");
                continue;
            }
            // A part of a word is a word that can't stand where it begins; but e is a to h, too.
            int place = n > 15 && n < 20 ? 15 : n > 25 && n < 28 ? 25 : n == 33 ? 32 : n > 39 && n < 42 ? 38 : n;
            fault(text, 1, place);
            fault(text + "  ", 1, place == n ? n + 2 : place);
        }
    }

    /** "2 an N above 99,999", wherever an N can stand */
    private static void tooHigh() {
        String[] heads = {"a=", "m[", "m[1]=", "out ", "while ", "if ", "a=1+", "a=1-", "a=1*", "a=1/", "a=1%", "a=1<", "a=1>", "a=1=",
            "a=(", "a=m[", "while 1{a=", "if 1{out ", "if 1{}else{out ", "a=99999+", "a=1;   out   "};
        for (String head : heads) {
            fault(head + "100000", 2, head.length());
            fault(head + "100000;$", 2, head.length());
            fault(head + "99999$", 1, head.length() + 5);
        }
    }

    /** "3 a seventh of ( [ { that is open at one time" */
    private static void seventhBracket() {
        String[][] kinds = {{"(", "", ")"}, {"m[", "", "]"}};
        for (int mask = 0; mask < 64; mask++) {
            StringBuilder left = new StringBuilder("a=");
            StringBuilder right = new StringBuilder(";");
            for (int i = 0; i < 6; i++) {
                String[] kind = kinds[mask >> i & 1];
                left.append(kind[0]);
                right.insert(0, kind[2]);
            }
            stands(left + "1" + right);
            stands(left + "1" + right + left + "1" + right);
            fault(left + "(1)" + right, 3, left.length());
            fault(left + "m[1]" + right, 3, left.length() + 1);
        }
        String open = "if 1{while 1{if 1{}else{";
        stands(open + "m[m[(1)]]=1;}}}");
        stands(open + "m[1]=((m[1]));}}}");
        fault(open + "m[m[(m[1])]]=1;}}}", 3, open.length() + 6);
        fault(open + "a=(((1+(2))));}}}", 3, open.length() + 7);
        fault(open + "if 1{if 1{if 1{if 1{}}}}}}}", 3, open.length() + 19);
        fault(open + "if 1{if 1{if 1{}else{a=(1);}}}}}}", 3, open.length() + 23);
        fault("while ((((((1)))))){if 1{if 1{if 1{if 1{if 1{if 1{}}}}}}}", 3, 49);
        // One that is closed is open no more.
        stands("if 1{}".repeat(20));
        stands("a=(1)+(1)+(1)+(1)+(1)+(1)+(1)+(1);");
        stands("m[1]=m[1]+m[1]+m[1]+m[1]+m[1]+m[1]+m[1];");
        stands("if ((((((1)))))){if 1{if 1{if 1{if 1{if 1{}}}}}}else{if 1{if 1{if 1{if 1{if 1{}}}}}}");
    }

    /** "FAULTS, the first from the left" */
    private static void firstFromTheLeft() {
        fault("a=100000;b=x;", 2, 2);
        fault("a=x;b=100000;", 1, 2);
        fault("a=(((((((100000", 3, 8);
        fault("a=100000+(((((((1", 2, 2);
        fault("a=x+(((((((1", 1, 2);
        fault("a=(((((((x", 3, 8);
        fault("a=1;$ 100000 ((((((( ", 1, 4);
    }

    /** "of one the least" */
    private static void leastOfOnePlace() {
        fault("100000;", 1, 0);
        fault("a 100000;", 1, 2);
        fault("a=b 100000;", 1, 4);
        fault("m 100000", 1, 2);
        fault("a=((((((1(", 1, 9);
        fault("a=((((((1[", 1, 9);
        fault("a=(((((({", 1, 8);
        fault("a=(((((([", 1, 8);
        fault("if 1{if 1{if 1{if 1{if 1{if 1{a(", 1, 31);
        fault("if 1{if 1{if 1{if 1{if 1{if 1{(", 1, 30);
        fault("if 1{if 1{if 1{if 1{if 1{if 1{[", 1, 30);
    }

    /** "behind all these, at the length: 4 the CODE has more than 200 steps with HALT" */
    private static void moreThan200Steps() {
        // a=1 and n signs with their numbers make 3 + 2 n steps with HALT.
        String odd = "a=1" + "+1".repeat(98) + ";";
        StrangerHall most = hallOf(odd);
        Check.is("P5 199 steps: the last", most.code(0, 198, 0), 0);
        Check.is("P5 199 steps: none behind", most.code(0, 199, 0), -1);
        fault("a=1" + "+1".repeat(99) + ";", 4, 202);
        // a=m[1] and n signs with their numbers make 4 + 2 n steps with HALT.
        StrangerHall full = hallOf("a=m[1]" + "+1".repeat(98) + ";");
        Check.is("P5 200 steps: the last", full.code(0, 199, 0), 0);
        Check.is("P5 200 steps: none behind", full.code(0, 200, 0), -1);
        fault("a=m[1]" + "+1".repeat(99) + ";", 4, 205);
        fault("a=m[1]" + "+1".repeat(99) + ";  ", 4, 207);
        fault("a=1" + "+1".repeat(198) + ";", 4, 400);
        // Of one head the 201st step is a number, of the other a sign.
        for (String head : new String[] {"a=1", "a=m[1]"}) {
            String code = head + "+1".repeat(120) + ";";
            fault(code + "b", 1, code.length() + 1);
            fault(code + "$", 1, code.length());
            fault(code + "b=100000;", 2, code.length() + 2);
            fault(code + "b=(((((((1", 3, code.length() + 8);
            fault(code.substring(0, code.length() - 1), 1, code.length() - 1);
        }
        // Nothing is left of one that was too long.
        StrangerHall behind = new StrangerHall();
        Check.is("P3 too long", Check.task(behind, 0, "a=1" + "+1".repeat(150) + ";"), -6);
        Check.is("P3 200 steps behind it", Check.task(behind, 0, "a=m[1]" + "+1".repeat(98) + ";"), 0);
        Check.is("P5 its HALT", behind.code(0, 199, 0), 0);
        Check.is("P5 its HALT's number", behind.code(0, 199, 1), 0);
        Check.is("P7 its steps", behind.length(0), 199);
        // Each kind of statement counts: the 200th step is HALT, with one more it is too long.
        String[] ends = {"while a{}", "if a{}", "if a{}else{}", "out a;", "m[a]=a;"};
        int[] steps = {3, 2, 3, 2, 3};
        for (int i = 0; i < ends.length; i++) {
            int rest = 199 - steps[i];
            String head = rest % 2 == 0 ? "a=3;" : "b=m[1];";
            int left = rest - (rest % 2 == 0 ? 2 : 3);
            String filled = head + "a=3" + "+3".repeat((left - 2) / 2) + ";";
            StrangerHall hall = hallOf(filled + ends[i]);
            Check.is("P5 the 200th step with " + ends[i], hall.code(0, 199, 0), 0);
            String over = filled + "a=3;" + ends[i];
            fault(over, 4, over.length());
            String justOver = filled.replace(head, head.equals("a=3;") ? "a=m[1];" : "b=m[m[1]];") + ends[i];
            fault(justOver, 4, justOver.length());
        }
    }

    /** "The place of the FAULT of the latest task(); NONE without" */
    private static void faultOfTheLatest() {
        StrangerHall hall = new StrangerHall();
        Check.is("P4 without a task()", hall.fault(), -1);
        Check.task(hall, 0, "a=1;b=");
        Check.is("P4 the first", hall.fault(), 6);
        Check.is("P4 asked again", hall.fault(), 6);
        Check.feed(hall, "a=");
        Check.is("P4 feed is no task()", hall.fault(), 6);
        hall.task(0, 2);
        Check.is("P4 the latest", hall.fault(), 2);
        hall.task(0, 0);
        Check.is("P4 without a fault", hall.fault(), -1);
        Check.task(hall, 0, "$");
        Check.is("P4 place 0", hall.fault(), 0);
        for (int i = 0; i < 5; i++) {
            hall.task(0, 0);
        }
        Check.is("P4 the sixth stands", hall.fault(), -1);
        Check.task(hall, 0, "$");
        Check.is("P4 none where there are 6", hall.fault(), -1);
    }

    /** Jumps over the whole of 200 steps. */
    private static void codeOfWhole200() {
        StrangerHall hall = hallOf("while a{b=1" + "+1".repeat(97) + ";}");
        Check.is("P5 ZERO to behind the JUMP", hall.code(0, 1, 1), 199);
        Check.is("P5 the JUMP", hall.code(0, 198, 0), 14);
        Check.is("P5 its number", hall.code(0, 198, 1), 0);
        Check.is("P5 HALT behind all", hall.code(0, 199, 0), 0);
        Check.is("P5 HALT's number", hall.code(0, 199, 1), 0);
        Check.is("P5 none behind", hall.code(0, 200, 0), -1);
        StrangerHall branch = hallOf("if a{}else{b=1" + "+1".repeat(97) + ";}");
        Check.is("P5 ZERO to behind the JUMP", branch.code(0, 1, 1), 3);
        Check.is("P5 a JUMP to behind else's S", branch.code(0, 2, 1), 199);
    }

    /** "Made so": each form with its steps, 0 HALT to 16 OUT */
    private static void codeForms() {
        code("a=1+2;", 1, 1, 1, 2, 6, 0, 3, 0, 0, 0);
        code("a=1-2;", 1, 1, 1, 2, 7, 0, 3, 0, 0, 0);
        code("a=1*2;", 1, 1, 1, 2, 8, 0, 3, 0, 0, 0);
        code("a=1/2;", 1, 1, 1, 2, 9, 0, 3, 0, 0, 0);
        code("a=1%2;", 1, 1, 1, 2, 10, 0, 3, 0, 0, 0);
        code("a=1<2;", 1, 1, 1, 2, 11, 0, 3, 0, 0, 0);
        code("a=1>2;", 1, 1, 1, 2, 12, 0, 3, 0, 0, 0);
        code("a=1=2;", 1, 1, 1, 2, 13, 0, 3, 0, 0, 0);
        code("a=1*2+3*4<5;", 1, 1, 1, 2, 8, 0, 1, 3, 1, 4, 8, 0, 6, 0, 1, 5, 11, 0, 3, 0, 0, 0);
        code("a=1<2+3*4;", 1, 1, 1, 2, 1, 3, 1, 4, 8, 0, 6, 0, 11, 0, 3, 0, 0, 0);
        code("a=1*(2+(3<4));", 1, 1, 1, 2, 1, 3, 1, 4, 11, 0, 6, 0, 8, 0, 3, 0, 0, 0);
        code("m[a]=m[b];", 2, 0, 2, 1, 4, 0, 5, 0, 0, 0);
        code("out m[7]-h;", 1, 7, 4, 0, 2, 7, 7, 0, 16, 0, 0, 0);
        code("while 1{while 2{}}", 1, 1, 15, 6, 1, 2, 15, 5, 14, 2, 14, 0, 0, 0);
        code("if 1{if 2{}else{}}else{if 3{}}", 1, 1, 15, 6, 1, 2, 15, 5, 14, 5, 14, 8, 1, 3, 15, 8, 0, 0);
        code("while m[a]{out a;}", 2, 0, 4, 0, 15, 6, 2, 0, 16, 0, 14, 0, 0, 0);
    }

    /** "NONE: there is none"; "another what" */
    private static void codeBounds() {
        StrangerHall hall = hallOf("a=12345;");
        Check.is("P5 the first step", hall.code(0, 0, 0), 1);
        Check.is("P5 the last step", hall.code(0, 2, 0), 0);
        int[] none = {-1, 3, 200, Integer.MIN_VALUE, Integer.MAX_VALUE};
        for (int k : none) {
            Check.is("P5 which at " + k, hall.code(0, k, 0), -1);
            Check.is("P5 the number at " + k, hall.code(0, k, 1), -1);
        }
        int[] wrong = {-1, 2, Integer.MIN_VALUE, Integer.MAX_VALUE};
        for (int what : wrong) {
            Check.noValue("P5 what " + what, () -> hall.code(0, 0, what));
            Check.noValue("P5 what " + what + " where there is none", () -> hall.code(0, 3, what));
        }
        StrangerHall empty = hallOf("");
        Check.is("P5 HALT alone", empty.code(0, 0, 0), 0);
        Check.is("P5 without a number", empty.code(0, 0, 1), 0);
        Check.is("P5 none behind HALT", empty.code(0, 1, 0), -1);
    }
}
