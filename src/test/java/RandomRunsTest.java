import java.util.Random;

/** Random runs of 512 calls, each answer compared with PlainHall's; arguments: how many runs, the first seed. */
public final class RandomRunsTest {
    private static final int CALLS = 512;

    private final Random random;
    private final StrangerHall hall = new StrangerHall();
    private final PlainHall plain = new PlainHall();
    private final StringBuilder log = new StringBuilder();
    private int calls = 0;
    private boolean differs = false;

    private RandomRunsTest(int seed) {
        random = new Random(seed);
    }

    public static void main(String[] args) {
        int runs = args.length > 0 ? Integer.parseInt(args[0]) : 150;
        int first = args.length > 1 ? Integer.parseInt(args[1]) : 1;
        for (int seed = first; seed < first + runs; seed++) {
            RandomRunsTest run = new RandomRunsTest(seed);
            run.go();
            Check.is("random run " + seed, run.differs, false);
        }
        Check.end();
    }

    private void go() {
        // Some runs begin with all the tasks and houses that there can be.
        boolean full = chance(20);
        int tasks = full ? 6 : 1 + pick(3);
        for (int i = 0; i < tasks; i++) {
            newTask();
        }
        for (int i = full ? 8 : 2 + pick(4); i > 0; i--) {
            int coins = pick(2000);
            same("house", () -> hall.house(coins), () -> plain.house(coins));
        }
        while (calls < CALLS && !differs) {
            anyCall();
        }
        if (differs) {
            System.out.println(log);
        }
    }

    private void same(String name, Check.Call got, Check.Call due, long... args) {
        if (calls >= CALLS || differs) {
            return;
        }
        calls++;
        String one = told(got);
        String other = told(due);
        log.append(name).append(java.util.Arrays.toString(args)).append(" = ").append(one).append('\n');
        if (!one.equals(other)) {
            differs = true;
            log.append("due is ").append(other).append('\n');
        }
    }

    private static String told(Check.Call call) {
        try {
            return Long.toString(call.run());
        } catch (RuntimeException e) {
            return e.getClass().getName();
        }
    }

    // ---- arguments: mostly such as do something, sometimes at or behind an edge

    private int pick(int n) {
        return random.nextInt(Math.max(1, n));
    }

    private boolean chance(int percent) {
        return pick(100) < percent;
    }

    private int odd(int usual, int... others) {
        if (!chance(3)) {
            return usual;
        }
        int[] far = {-1, 0, 1, Integer.MIN_VALUE, Integer.MAX_VALUE, 1000001, 20001, 101};
        return others.length > 0 && chance(70) ? others[pick(others.length)] : far[pick(far.length)];
    }

    private int someTask() {
        return odd(pick(plain.count(1)), plain.count(1), -1);
    }

    /** A task that is cut, if there is one. */
    private int cutTask() {
        int n = plain.count(1);
        for (int i = 0, t = pick(n); i < n; i++, t = (t + 1) % n) {
            if (pieces(t) > 0) {
                return odd(t, n, -1);
            }
        }
        return someTask();
    }

    private int someHouse() {
        return odd(pick(plain.count(2)), plain.count(2), -1);
    }

    private int pieces(int task) {
        int n = 0;
        while (n < 20 && exists(task, n)) {
            n++;
        }
        return n;
    }

    private boolean exists(int task, int piece) {
        try {
            plain.piece(task, piece, 0);
            return true;
        } catch (IndexOutOfBoundsException e) {
            return false;
        }
    }

    private int somePiece(int task) {
        int n = pieces(task);
        return odd(pick(chance(60) ? Math.min(n, 3) : n), n, -1);
    }

    /** A piece that is in such a state, if the task has one. */
    private int pieceThatIs(int task, int state) {
        int n = pieces(task);
        for (int i = 0, j = pick(n); i < n; i++, j = (j + 1) % n) {
            if (plain.piece(task, j, 0) == state && chance(80)) {
                return j;
            }
        }
        return somePiece(task);
    }

    private int someSteps(int task) {
        int length = exists(task) ? plain.length(task) : -1;
        return odd(pick(chance(5) || length < 0 ? 20001 : length + 2), 20000, 20001, -1, length);
    }

    private boolean exists(int task) {
        return task >= 0 && task < plain.count(1);
    }

    private int sumAt(int task, int steps) {
        if (chance(35) || !exists(task) || steps < 0 || steps > 20000) {
            return pick(3);
        }
        return plain.sum(task, steps);
    }

    private int sumOfPiece(int task, int piece, int what) {
        if (!exists(task) || !exists(task, piece)) {
            return 0;
        }
        return sumAt(task, plain.piece(task, piece, what));
    }

    private int number() {
        return chance(80) ? pick(20) - 5 : random.nextInt();
    }

    // ---- texts

    private void newTask() {
        String text = chance(15) ? linearText() : text(2 + pick(10));
        if (chance(25)) {
            text = spoilt(text);
        }
        if (text.length() > 400) {
            text = text.substring(0, 400);
        }
        for (int i = 0; i < text.length() && !differs; i += 20) {
            int[] five = five(text, i);
            same("feed", () -> hall.feed(five[0], five[1], five[2], five[3], five[4]), () -> plain.feed(five),
                five[0], five[1], five[2], five[3], five[4]);
        }
        int purse = odd(pick(3000), 1000000, 1000001, -1);
        int n = odd(text.length(), plain.count(6), plain.count(6) + 1, -1);
        same("task", () -> hall.task(purse, n), () -> plain.task(purse, n), purse, n);
        same("fault", hall::fault, plain::fault);
        if (plain.count(1) > 0) {
            int task = plain.count(1) - 1;
            same("linear", () -> hall.linear(task), () -> plain.linear(task), task);
            int place = pick(64);
            int value = number();
            same("memory", () -> hall.memory(task, place, value), () -> plain.memory(task, place, value), task, place, value);
            int steps = Math.max(10, plain.length(task) / (1 + pick(8)) + pick(3));
            same("cut", () -> hall.cut(task, steps), () -> plain.cut(task, steps), task, steps);
        }
    }

    private static int[] five(String text, int from) {
        int[] five = new int[5];
        for (int i = 0; i < 20; i++) {
            int b = from + i < text.length() ? text.charAt(from + i) : 0;
            five[i / 4] = five[i / 4] << 8 | b;
        }
        return five;
    }

    private String spoilt(String text) {
        StringBuilder made = new StringBuilder(text);
        String signs = " ;(){}[]=<>+-*/%abchmixw0159\u0000\u00ff\u0061";
        for (int i = 1 + pick(2); i > 0; i--) {
            int at = pick(made.length() + 1);
            char sign = signs.charAt(pick(signs.length()));
            if (chance(40)) {
                made.insert(at, sign);
            } else if (at < made.length() && chance(50)) {
                made.setCharAt(at, sign);
            } else if (at < made.length()) {
                made.deleteCharAt(at);
            }
        }
        return made.toString();
    }

    private String linearText() {
        StringBuilder text = new StringBuilder();
        for (int i = pick(4); i >= 0; i--) {
            text.append(blank()).append("out ").append(term());
            for (int k = pick(4); k > 0; k--) {
                text.append(chance(50) ? "+" : "-").append(term());
            }
            text.append(blank()).append(';');
        }
        return text + (chance(10) ? text(1) : "");
    }

    private String term() {
        String memory = "m" + blank() + "[" + pick(70) + "]";
        return chance(50) ? memory : chance(95) ? pick(9) + blank() + "*" + memory : pick(9) + "*" + term();
    }

    private String blank() {
        return chance(8) ? " ".repeat(1 + pick(3)) : "";
    }

    private String text(int statements) {
        StringBuilder text = new StringBuilder();
        for (int i = 0; i < statements; i++) {
            text.append(blank()).append(statement(0));
        }
        return text.append(blank()).toString();
    }

    private String statement(int depth) {
        String name = String.valueOf((char) ('a' + pick(8)));
        int kind = depth > 3 ? pick(6) : pick(9);
        if (kind < 3) {
            return name + blank() + "=" + expression(depth) + ";";
        }
        if (kind < 5) {
            return "m[" + expression(depth) + "]" + blank() + "=" + expression(depth) + blank() + ";";
        }
        if (kind == 5) {
            return "out " + expression(depth) + ";";
        }
        if (kind == 6) {
            return "if " + expression(depth) + "{" + statement(depth + 1) + "}"
                + (chance(50) ? blank() + "else" + blank() + "{" + statement(depth + 1) + "}" : "");
        }
        if (kind == 7) {
            int rounds = chance(10) ? 1500 : 2 + pick(12);
            return name + "=" + rounds + ";while " + name + ">0{" + (chance(60) ? statement(depth + 1) : "") + name + "=" + name + "-1;}";
        }
        return chance(15) ? "while " + expression(depth) + "{" + statement(depth + 1) + "}" : statement(depth);
    }

    private String expression(int depth) {
        if (depth > 5 || chance(45)) {
            return blank() + (chance(50) ? String.valueOf(pick(chance(10) ? 101000 : 12)) : String.valueOf((char) ('a' + pick(8))));
        }
        if (chance(25)) {
            return "m[" + expression(depth + 1) + "]";
        }
        if (chance(25)) {
            return "(" + expression(depth + 1) + blank() + ")";
        }
        return expression(depth + 1) + blank() + "+-*/%<>=".charAt(pick(8)) + expression(depth + 1);
    }

    // ---- calls

    private void anyCall() {
        int kind = pick(100);
        if (kind < 45) {
            pieceCall(cutTask());
        } else if (kind < 65) {
            lookCall(someTask());
        } else if (kind < 80) {
            bidCall(cutTask());
        } else if (kind < 90) {
            partCall(someTask());
        } else {
            hallCall();
        }
    }

    private void pieceCall(int t) {
        switch (chance(60) ? pick(4) : pick(6)) {
            case 0 -> {
                int p = pieceThatIs(t, 0);
                int h = someHouse();
                int price = odd(pick(60), 1000000, -1);
                int pledge = odd(pick(60), 1000000, -1);
                int ticks = odd(1 + pick(30), 1000, 1001, 0);
                same("give", () -> hall.give(t, p, h, price, pledge, ticks), () -> plain.give(t, p, h, price, pledge, ticks), t, p, h, price, pledge, ticks);
            }
            case 1 -> {
                int p = pieceThatIs(t, 1);
                int sum = sumOfPiece(t, p, 3);
                same("claim", () -> hall.claim(t, p, sum), () -> plain.claim(t, p, sum), t, p, sum);
            }
            case 2 -> {
                int p = pieceThatIs(t, 2);
                int h = someHouse();
                int sum = sumOfPiece(t, p, 3);
                same("doubt", () -> hall.doubt(t, p, h, sum), () -> plain.doubt(t, p, h, sum), t, p, h, sum);
            }
            case 3 -> {
                int p = pieceThatIs(t, 3);
                boolean quarrels = exists(t) && exists(t, p) && plain.piece(t, p, 0) == 3;
                for (int i = quarrels ? 2 + pick(16) : 0; i >= 0; i--) {
                    boolean claimer = chance(50);
                    int sum = sumOfPiece(t, p, 7);
                    same("answer", () -> hall.answer(t, p, claimer, sum), () -> plain.answer(t, p, claimer, sum), t, p, claimer ? 1 : 0, sum);
                }
            }
            case 4 -> {
                int p = somePiece(t);
                for (int what = 0; what < 10; what++) {
                    int asked = odd(what, 10, -1);
                    same("piece", () -> hall.piece(t, p, asked), () -> plain.piece(t, p, asked), t, p, asked);
                }
            }
            default -> {
                int ticks = odd(chance(70) ? pick(4) : pick(15), 0, 1000, 1001, -1);
                same("tick", () -> hall.tick(ticks), () -> plain.tick(ticks), ticks);
            }
        }
    }

    private void lookCall(int t) {
        int steps = someSteps(t);
        switch (pick(8)) {
            case 0 -> {
                int k = odd(pick(30), 200, -1);
                int what = odd(pick(2), 2);
                same("code", () -> hall.code(t, k, what), () -> plain.code(t, k, what), t, k, what);
            }
            case 1 -> {
                int place = odd(pick(64), 64, -1);
                int value = number();
                same("memory", () -> hall.memory(t, place, value), () -> plain.memory(t, place, value), t, place, value);
            }
            case 2 -> same("length", () -> hall.length(t), () -> plain.length(t), t);
            case 3 -> {
                int cell = odd(chance(50) ? pick(40) : pick(128), 128, -1);
                same("cell", () -> hall.cell(t, steps, cell), () -> plain.cell(t, steps, cell), t, steps, cell);
            }
            case 4 -> same("sum", () -> hall.sum(t, steps), () -> plain.sum(t, steps), t, steps);
            case 5 -> {
                int page = odd(pick(16), 16, -1);
                int level = odd(pick(4), 4, -1);
                same("beside", () -> hall.beside(t, steps, page, level), () -> plain.beside(t, steps, page, level), t, steps, page, level);
            }
            case 6 -> {
                int page = odd(pick(16), 16, -1);
                int sum = pageSum(t, steps, page);
                same("shown", () -> hall.shown(t, steps, page, sum) ? 1 : 0, () -> plain.shown(t, steps, page, sum) ? 1 : 0, t, steps, page, sum);
            }
            default -> {
                int pieceSteps = odd(10 + pick(200), 9, 10, 20000, 20001);
                same("cut", () -> hall.cut(t, pieceSteps), () -> plain.cut(t, pieceSteps), t, pieceSteps);
            }
        }
    }

    private int pageSum(int t, int steps, int page) {
        if (!exists(t) || steps < 0 || steps > 20000 || page < 0 || page > 15 || chance(30)) {
            return number();
        }
        int sum = 17;
        for (int i = 0; i < 8; i++) {
            sum = 31 * sum + plain.cell(t, steps, 8 * page + i);
        }
        return sum;
    }

    private void bidCall(int t) {
        int p = pieceThatIs(t, 0);
        int h = someHouse();
        switch (pick(5)) {
            case 0, 1 -> {
                int price = odd(pick(5), 1000000, -1);
                int hours = odd(1 + pick(9), 0, 1000, 1001);
                int pledge = odd(pick(chance(80) ? 10 : 1500), 1000000, -1);
                same("bid", () -> hall.bid(t, p, h, price, hours, pledge), () -> plain.bid(t, p, h, price, hours, pledge), t, p, h, price, hours, pledge);
            }
            case 2 -> same("cost", () -> hall.cost(t, p, h), () -> plain.cost(t, p, h), t, p, h);
            case 3 -> {
                int steps = someSteps(t);
                int sum = sumAt(t, steps);
                same("trial", () -> hall.trial(h, t, steps, sum) ? 1 : 0, () -> plain.trial(h, t, steps, sum) ? 1 : 0, h, t, steps, sum);
            }
            default -> {
                int bits = odd(someBits(t), 0, 1 << 20, Integer.MIN_VALUE);
                int hours = odd(chance(60) ? 1 + pick(25) : 5000, 0, 5001);
                for (int i = 0; i < 3; i++) {
                    int what = i == 0 ? -1 : odd(pick(6), 19, 20, -2);
                    same("chosen", () -> hall.chosen(t, bits, hours, what), () -> plain.chosen(t, bits, hours, what), t, bits, hours, what);
                }
            }
        }
    }

    /** Pieces that have bids, for the most part. */
    private int someBits(int t) {
        int bits = 0;
        int n = pieces(t);
        for (int j = 0; j < n; j++) {
            boolean bidFor = false;
            for (int h = 0; h < plain.count(2); h++) {
                bidFor |= plain.cost(t, j, h) >= 0;
            }
            if (chance(bidFor ? 70 : 1)) {
                bits |= 1 << j;
            }
        }
        return bits == 0 && chance(80) ? 1 << pick(n) : bits;
    }

    private void partCall(int t) {
        int n = odd(2 + pick(7), 0, 1, 9);
        int k = odd(pick(8), 7, -1);
        int place = odd(chance(50) ? pick(4) : pick(64), 64, -1);
        switch (pick(4)) {
            case 0, 1 -> {
                int value = number();
                same("lot", () -> hall.lot(t, k, place, value), () -> plain.lot(t, k, place, value), t, k, place, value);
            }
            case 2 -> same("part", () -> hall.part(t, n, k, place), () -> plain.part(t, n, k, place), t, n, k, place);
            default -> {
                int asked = chance(40) ? 0 : n;
                int j = odd(pick(chance(80) ? 3 : 10), 10, -1);
                same("out", () -> hall.out(t, asked, j), () -> plain.out(t, asked, j), t, asked, j);
            }
        }
    }

    private void hallCall() {
        switch (pick(8)) {
            case 0 -> {
                for (int what = 0; what < 8; what++) {
                    int asked = odd(what, 8, -1);
                    same("count", () -> hall.count(asked), () -> plain.count(asked), asked);
                }
            }
            case 1, 2 -> {
                for (int h = 0; h < plain.count(2); h++) {
                    int house = h;
                    for (int what = 0; what < 3; what++) {
                        int asked = odd(what, 3, -1);
                        same("told", () -> hall.told(house, asked), () -> plain.told(house, asked), house, asked);
                    }
                }
            }
            case 3 -> {
                int what = odd(pick(3), 3, -1);
                int v = odd(1 + pick(15), 0, 100, 101);
                same("rule", () -> hall.rule(what, v), () -> plain.rule(what, v), what, v);
            }
            case 4 -> {
                int t = someTask();
                same("purse", () -> hall.purse(t), () -> plain.purse(t), t);
            }
            case 5 -> {
                int left = random.nextInt();
                int right = number();
                same("both", () -> hall.both(left, right), () -> plain.both(left, right), left, right);
            }
            case 6 -> {
                int coins = odd(pick(300), 1000000, 1000001, -1);
                same("house", () -> hall.house(coins), () -> plain.house(coins), coins);
            }
            default -> {
                if (chance(30)) {
                    newTask();
                }
            }
        }
    }
}
