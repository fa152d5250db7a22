import java.util.ArrayList;
import java.util.List;
import java.util.TreeMap;

/** The document once more, written as plainly as it can be, to compare random runs with. */
final class PlainHall {
    static final class Fault extends RuntimeException {
        private static final long serialVersionUID = 1L;
        final int number;
        final int place;

        Fault(int number, int place) {
            this.number = number;
            this.place = place;
        }
    }

    record Token(String text, int place) {
    }

    record Step(int kind, int number, boolean aims) {
    }

    record Bid(int price, int hours, int pledge) {
    }

    static final class Task {
        String text;
        List<Step> code;
        int[] memory = new int[64];
        int[][] lots = new int[7][64];
        int purse;
        List<Piece> pieces = new ArrayList<>();
    }

    static final class House {
        int coins;
        int kept;
        int lies;
    }

    static final class Piece {
        String state = "open";
        int first;
        int last;
        int house = -1;
        int price;
        int pledge;
        int till;
        int number;
        int since;
        int failures;
        int doubter = -1;
        int start;
        int startNumber;
        int end;
        int[] endNumbers;
        Integer[] told;
        TreeMap<Integer, Bid> bids = new TreeMap<>();
    }

    private final List<Integer> tape = new ArrayList<>();
    private final List<Task> tasks = new ArrayList<>();
    private final List<House> houses = new ArrayList<>();
    private final int[] rules = {10, 5, 50};
    private int now;
    private int chest;
    private int faultPlace = -1;

    // ---- texts

    private static final class Reader {
        final List<Token> tokens = new ArrayList<>();
        int at = 0;
        int open = 0;

        Reader(String text) {
            int i = 0;
            while (i < text.length()) {
                char c = text.charAt(i);
                int from = i++;
                if (c == ' ') {
                    continue;
                }
                if (Character.isDigit(c) && c < 128) {
                    while (i < text.length() && text.charAt(i) >= '0' && text.charAt(i) <= '9') {
                        i++;
                    }
                } else if (c >= 'a' && c <= 'z') {
                    while (i < text.length() && text.charAt(i) >= 'a' && text.charAt(i) <= 'z') {
                        i++;
                    }
                }
                tokens.add(new Token(text.substring(from, i), from));
            }
            tokens.add(new Token("", text.length()));
        }

        String seen() {
            return tokens.get(at).text();
        }

        Fault wrong(int number) {
            return new Fault(number, tokens.get(at).place());
        }

        void take(String text) {
            if (!seen().equals(text)) {
                throw wrong(1);
            }
            if ("([{".contains(text)) {
                if (++open == 7) {
                    throw wrong(3);
                }
            }
            if (")]}".contains(text)) {
                open--;
            }
            at++;
        }

        boolean seesWord() {
            return !seen().isEmpty() && Character.isLowerCase(seen().charAt(0)) && seen().charAt(0) < 128;
        }

        List<Step> whole() {
            List<Step> code = statements();
            if (!seen().isEmpty()) {
                throw wrong(1);
            }
            code.add(new Step(0, 0, false));
            if (code.size() > 200) {
                throw wrong(4);
            }
            return code;
        }

        List<Step> statements() {
            List<Step> code = new ArrayList<>();
            while (seesWord()) {
                append(code, statement());
            }
            return code;
        }

        List<Step> block() {
            take("{");
            List<Step> code = statements();
            take("}");
            return code;
        }

        List<Step> statement() {
            List<Step> code = new ArrayList<>();
            String word = seen();
            if (word.matches("[a-h]")) {
                take(word);
                take("=");
                append(code, expression(0));
                take(";");
                code.add(new Step(3, word.charAt(0) - 'a', false));
            } else if (word.equals("m")) {
                take("m");
                take("[");
                append(code, expression(0));
                take("]");
                take("=");
                append(code, expression(0));
                take(";");
                code.add(new Step(5, 0, false));
            } else if (word.equals("out")) {
                take("out");
                append(code, expression(0));
                take(";");
                code.add(new Step(16, 0, false));
            } else if (word.equals("while")) {
                take("while");
                append(code, expression(0));
                List<Step> inner = block();
                code.add(new Step(15, code.size() + 1 + inner.size() + 1, true));
                append(code, inner);
                code.add(new Step(14, 0, true));
            } else if (word.equals("if")) {
                take("if");
                append(code, expression(0));
                List<Step> inner = block();
                if (seen().equals("else")) {
                    take("else");
                    List<Step> other = block();
                    code.add(new Step(15, code.size() + 1 + inner.size() + 1, true));
                    append(code, inner);
                    code.add(new Step(14, code.size() + 1 + other.size(), true));
                    append(code, other);
                } else {
                    code.add(new Step(15, code.size() + 1 + inner.size(), true));
                    append(code, inner);
                }
            } else {
                throw wrong(1);
            }
            return code;
        }

        static void append(List<Step> code, List<Step> more) {
            int shift = code.size();
            for (Step step : more) {
                code.add(step.aims() ? new Step(step.kind(), step.number() + shift, true) : step);
            }
        }

        List<Step> expression(int level) {
            String[] signs = {"<>=", "+-", "*/%"};
            if (level == 3) {
                return unit();
            }
            List<Step> code = expression(level + 1);
            while (!seen().isEmpty() && signs[level].contains(seen())) {
                String sign = seen();
                take(sign);
                append(code, expression(level + 1));
                code.add(new Step(6 + "+-*/%<>=".indexOf(sign), 0, false));
            }
            return code;
        }

        List<Step> unit() {
            List<Step> code = new ArrayList<>();
            String text = seen();
            if (text.matches("[0-9]+")) {
                if (text.replaceFirst("^0+", "").length() > 5) {
                    throw wrong(2);
                }
                take(text);
                code.add(new Step(1, Integer.parseInt(text), false));
            } else if (text.matches("[a-h]")) {
                take(text);
                code.add(new Step(2, text.charAt(0) - 'a', false));
            } else if (text.equals("m")) {
                take("m");
                take("[");
                append(code, expression(0));
                take("]");
                code.add(new Step(4, 0, false));
            } else if (text.equals("(")) {
                take("(");
                append(code, expression(0));
                take(")");
            } else {
                throw wrong(1);
            }
            return code;
        }
    }

    /** Tries each row of tokens from the left as the beginning of a linear text. */
    private static int leavesLinear(String text) {
        Reader reader = new Reader(text);
        StringBuilder row = new StringBuilder();
        java.util.regex.Pattern form = java.util.regex.Pattern.compile("(o(n\\*)?m\\[n\\]([+-](n\\*)?m\\[n\\])*;)*");
        for (Token token : reader.tokens) {
            String t = token.text();
            if (t.isEmpty()) {
                break;
            }
            row.append(t.equals("out") ? "o" : t.matches("[0-9]+") ? "n" : t.length() == 1 && "m[]*+-;".contains(t) ? t : "?");
            java.util.regex.Matcher matcher = form.matcher(row);
            boolean begins = matcher.matches() || matcher.hitEnd();
            if (!begins) {
                return token.place();
            }
        }
        return -1;
    }

    // ---- the machine

    /** The cells after so many steps; in the last element how many there were ahead of HALT, or -1. */
    private static int[] stateOf(Task task, int[] memory, int steps, List<Integer> outs) {
        int[] c = new int[129];
        System.arraycopy(memory, 0, c, 64, 64);
        c[128] = -1;
        for (int i = 0; i <= steps; i++) {
            Step step = task.code.get(c[0]);
            if (step.kind() == 0) {
                c[128] = i;
                break;
            }
            if (i < steps) {
                make(c, step, outs);
            }
        }
        return c;
    }

    private static void make(int[] c, Step step, List<Integer> outs) {
        int top = 31 + c[1];
        int next = c[0] + 1;
        switch (step.kind()) {
            case 1 -> c[32 + c[1]++] = step.number();
            case 2 -> c[32 + c[1]++] = c[4 + step.number()];
            case 3 -> {
                c[4 + step.number()] = c[top];
                c[top] = 0;
                c[1]--;
            }
            case 4 -> c[top] = c[64 + Math.floorMod(c[top], 64)];
            case 5 -> {
                c[64 + Math.floorMod(c[top - 1], 64)] = c[top];
                c[top] = 0;
                c[top - 1] = 0;
                c[1] -= 2;
            }
            case 14 -> next = step.number();
            case 15 -> {
                next = c[top] == 0 ? step.number() : next;
                c[top] = 0;
                c[1]--;
            }
            case 16 -> {
                c[2]++;
                c[3] = c[3] * 31 + c[top];
                outs.add(c[top]);
                c[top] = 0;
                c[1]--;
            }
            default -> {
                c[top - 1] = made(step.kind(), c[top - 1], c[top]);
                c[top] = 0;
                c[1]--;
            }
        }
        c[0] = next;
    }

    private static int made(int kind, long x, long y) {
        return (int) switch (kind) {
            case 6 -> x + y;
            case 7 -> x - y;
            case 8 -> x * y;
            case 9 -> y == 0 ? 0 : x / y;
            case 10 -> y == 0 ? 0 : x % y;
            case 11 -> x < y ? 1 : 0;
            case 12 -> x > y ? 1 : 0;
            default -> x == y ? 1 : 0;
        };
    }

    private static int treeSum(int[] c, int from, int pages) {
        if (pages > 1) {
            int half = pages / 2;
            return 1000003 * treeSum(c, from, half) + 7 * treeSum(c, from + half, half) + 1;
        }
        int sum = 17;
        for (int i = from * 8; i < from * 8 + 8; i++) {
            sum = sum * 31 + c[i];
        }
        return sum;
    }

    private int stateSum(Task task, int steps) {
        return treeSum(stateOf(task, task.memory, steps, new ArrayList<>()), 0, 16);
    }

    private static int besideOf(int[] c, int page, int level) {
        int size = 1 << level;
        int block = page / size;
        return treeSum(c, (block % 2 == 0 ? block + 1 : block - 1) * size, size);
    }

    // ---- guards

    private static void need(boolean good) {
        if (!good) {
            throw new IllegalArgumentException();
        }
    }

    private static boolean in(long number, long least, long most) {
        return number >= least && number <= most;
    }

    private static <T> T at(List<T> list, int i) {
        if (i < 0 || i >= list.size()) {
            throw new IndexOutOfBoundsException();
        }
        return list.get(i);
    }

    private Piece pieceAt(int task, int piece) {
        return at(at(tasks, task).pieces, piece);
    }

    // ---- the face

    int feed(int... numbers) {
        if (tape.size() == 400) {
            return -1;
        }
        for (int number : numbers) {
            for (byte b : java.nio.ByteBuffer.allocate(4).putInt(number).array()) {
                tape.add(b & 255);
            }
        }
        return tape.size();
    }

    int task(int purse, int n) {
        need(in(purse, 0, 1000000) && in(n, 0, tape.size()));
        StringBuilder text = new StringBuilder();
        for (int b : tape.subList(0, n)) {
            text.append((char) b);
        }
        tape.clear();
        faultPlace = -1;
        if (tasks.size() == 6) {
            return -1;
        }
        Task task = new Task();
        task.text = text.toString();
        task.purse = purse;
        try {
            task.code = new Reader(task.text).whole();
        } catch (Fault fault) {
            faultPlace = fault.place;
            return fault.number - 10;
        }
        tasks.add(task);
        return tasks.size() - 1;
    }

    int fault() {
        return faultPlace;
    }

    int code(int task, int k, int what) {
        List<Step> code = at(tasks, task).code;
        need(in(what, 0, 1));
        if (!in(k, 0, code.size() - 1)) {
            return -1;
        }
        return what == 0 ? code.get(k).kind() : code.get(k).number();
    }

    int memory(int task, int place, int value) {
        Task t = at(tasks, task);
        need(in(place, 0, 63));
        if (!t.pieces.isEmpty()) {
            return -1;
        }
        t.memory[place] = value;
        return 1;
    }

    int length(int task) {
        Task t = at(tasks, task);
        return stateOf(t, t.memory, 20000, new ArrayList<>())[128];
    }

    int cell(int task, int steps, int cell) {
        Task t = at(tasks, task);
        need(in(cell, 0, 127) && in(steps, 0, 20000));
        return stateOf(t, t.memory, steps, new ArrayList<>())[cell];
    }

    int sum(int task, int steps) {
        Task t = at(tasks, task);
        need(in(steps, 0, 20000));
        return stateSum(t, steps);
    }

    int beside(int task, int steps, int page, int level) {
        Task t = at(tasks, task);
        need(in(page, 0, 15) && in(level, 0, 3) && in(steps, 0, 20000));
        return besideOf(stateOf(t, t.memory, steps, new ArrayList<>()), page, level);
    }

    int both(int left, int right) {
        return 1000003 * left + 7 * right + 1;
    }

    boolean shown(int task, int steps, int page, int sum) {
        Task t = at(tasks, task);
        need(in(page, 0, 15) && in(steps, 0, 20000));
        int[] c = stateOf(t, t.memory, steps, new ArrayList<>());
        int made = sum;
        for (int level = 0; level < 4; level++) {
            int other = besideOf(c, page, level);
            made = page / (1 << level) % 2 == 0 ? both(made, other) : both(other, made);
        }
        return made == treeSum(c, 0, 16);
    }

    int cut(int task, int steps) {
        Task t = at(tasks, task);
        need(in(steps, 10, 20000));
        if (!t.pieces.isEmpty()) {
            return -1;
        }
        int length = length(task);
        if (length < 0) {
            return -2;
        }
        List<Piece> pieces = new ArrayList<>();
        for (int from = 0; from < length; from += steps) {
            Piece p = new Piece();
            p.first = from;
            p.last = Math.min(from + steps, length);
            pieces.add(p);
        }
        if (pieces.isEmpty() || pieces.size() > 20) {
            return -3;
        }
        t.pieces = pieces;
        return pieces.size();
    }

    int house(int coins) {
        need(in(coins, 0, 1000000));
        if (houses.size() == 8) {
            return -1;
        }
        House h = new House();
        h.coins = coins;
        houses.add(h);
        return houses.size() - 1;
    }

    int told(int house, int what) {
        House h = at(houses, house);
        need(in(what, 0, 2));
        return new int[] {h.coins, h.kept, h.lies}[what];
    }

    int rule(int what, int v) {
        need(in(what, 0, 2));
        need(in(v, what == 2 ? 0 : 1, 100));
        int was = rules[what];
        rules[what] = v;
        return was;
    }

    int give(int task, int piece, int house, int price, int pledge, int ticks) {
        Piece p = pieceAt(task, piece);
        House h = at(houses, house);
        need(in(price, 0, 1000000) && in(pledge, 0, 1000000) && in(ticks, 1, 1000));
        if (!p.state.equals("open")) {
            return -1;
        }
        if (tasks.get(task).purse < price) {
            return -2;
        }
        if (h.coins < pledge) {
            return -3;
        }
        tasks.get(task).purse -= price;
        h.coins -= pledge;
        p.state = "given";
        p.house = house;
        p.price = price;
        p.pledge = pledge;
        p.till = now + ticks;
        p.bids.clear();
        return 1;
    }

    int claim(int task, int piece, int sum) {
        Piece p = pieceAt(task, piece);
        if (!p.state.equals("given")) {
            return -1;
        }
        p.state = "claimed";
        p.number = sum;
        p.since = now;
        return 1;
    }

    int doubt(int task, int piece, int house, int sum) {
        Piece p = pieceAt(task, piece);
        House h = at(houses, house);
        Task t = tasks.get(task);
        if (!p.state.equals("claimed")) {
            return -1;
        }
        if (p.house == house) {
            return -2;
        }
        if (p.number == sum) {
            return -3;
        }
        if (piece > 0 && !List.of("claimed", "waiting", "kept").contains(t.pieces.get(piece - 1).state)) {
            return -4;
        }
        if (h.coins < p.pledge) {
            return -5;
        }
        h.coins -= p.pledge;
        p.state = "quarrel";
        p.doubter = house;
        p.since = now;
        p.start = p.first;
        p.startNumber = piece == 0 ? stateSum(t, 0) : t.pieces.get(piece - 1).number;
        p.end = p.last;
        p.endNumbers = new int[] {p.number, sum};
        p.told = new Integer[2];
        if (p.end - p.start == 1) {
            judge(t, p);
        }
        return 1;
    }

    int piece(int task, int piece, int what) {
        Piece p = pieceAt(task, piece);
        need(in(what, 0, 9));
        boolean q = p.state.equals("quarrel");
        return switch (what) {
            case 0 -> List.of("open", "given", "claimed", "quarrel", "kept", "waiting").indexOf(p.state);
            case 1 -> p.house;
            case 2 -> p.first;
            case 3 -> p.last;
            case 4 -> q ? p.doubter : -1;
            case 5 -> q ? p.start : -1;
            case 6 -> q ? p.end : -1;
            case 7 -> q ? (p.start + p.end) / 2 : -1;
            case 8 -> p.failures;
            default -> p.number;
        };
    }

    int answer(int task, int piece, boolean claimer, int sum) {
        Piece p = pieceAt(task, piece);
        int who = claimer ? 0 : 1;
        if (!p.state.equals("quarrel")) {
            return -1;
        }
        if (p.told[who] != null) {
            return -2;
        }
        p.told[who] = sum;
        if (p.told[1 - who] == null) {
            return 1;
        }
        int middle = (p.start + p.end) / 2;
        if (p.told[0].equals(p.told[1])) {
            p.start = middle;
            p.startNumber = sum;
        } else {
            p.end = middle;
            p.endNumbers = new int[] {p.told[0], p.told[1]};
        }
        p.told = new Integer[2];
        p.since = now;
        if (p.end - p.start > 1) {
            return 1;
        }
        judge(tasks.get(task), p);
        return 2;
    }

    private void judge(Task t, Piece p) {
        boolean[] right = new boolean[2];
        if (stateSum(t, p.start) == p.startNumber) {
            right[0] = p.endNumbers[0] == stateSum(t, p.end);
            right[1] = p.endNumbers[1] == stateSum(t, p.end);
        }
        over(t, p, right);
    }

    private void over(Task t, Piece p, boolean[] right) {
        House[] two = {houses.get(p.house), houses.get(p.doubter)};
        for (int i = 0; i < 2; i++) {
            if (right[i]) {
                int share = p.pledge * rules[2] / 100;
                two[i].coins += p.pledge + share;
                chest += p.pledge - share;
            } else {
                two[i].lies++;
            }
        }
        if (!right[0] && !right[1]) {
            chest += 2 * p.pledge;
        }
        if (right[0]) {
            stays(t, p);
        } else {
            comesToBeVoid(t, p);
        }
    }

    private void stays(Task t, Piece p) {
        int j = t.pieces.indexOf(p);
        if (j > 0 && !t.pieces.get(j - 1).state.equals("kept")) {
            p.state = "waiting";
            return;
        }
        p.state = "kept";
        houses.get(p.house).coins += p.price;
        houses.get(p.house).kept++;
        if (j + 1 < t.pieces.size() && t.pieces.get(j + 1).state.equals("waiting")) {
            stays(t, t.pieces.get(j + 1));
        }
    }

    private void comesToBeVoid(Task t, Piece p) {
        opens(t, p);
        int j = t.pieces.indexOf(p) + 1;
        if (j == t.pieces.size()) {
            return;
        }
        Piece next = t.pieces.get(j);
        switch (next.state) {
            case "quarrel":
                houses.get(next.doubter).coins += next.pledge;
                houses.get(next.house).coins += next.pledge;
                comesToBeVoid(t, next);
                break;
            case "claimed":
                houses.get(next.house).coins += next.pledge;
                comesToBeVoid(t, next);
                break;
            case "waiting":
                comesToBeVoid(t, next);
                break;
            default:
                break;
        }
    }

    private void opens(Task t, Piece p) {
        t.purse += p.price;
        p.state = "open";
        p.house = -1;
        p.number = 0;
        p.failures++;
    }

    int tick(int ticks) {
        need(in(ticks, 0, 1000));
        if (now + ticks > 100000) {
            throw new IllegalStateException();
        }
        for (int i = 0; i < ticks; i++) {
            now++;
            for (Task t : tasks) {
                for (Piece p : t.pieces) {
                    passes(t, p);
                }
            }
        }
        return now;
    }

    private void passes(Task t, Piece p) {
        if (p.state.equals("given") && p.till < now) {
            chest += p.pledge;
            houses.get(p.house).lies++;
            opens(t, p);
        } else if (p.state.equals("claimed") && now - p.since >= rules[0]) {
            houses.get(p.house).coins += p.pledge;
            stays(t, p);
        } else if (p.state.equals("quarrel") && now - p.since >= rules[1]) {
            over(t, p, new boolean[] {p.told[0] != null, p.told[1] != null});
        }
    }

    boolean trial(int house, int task, int steps, int sum) {
        House h = at(houses, house);
        Task t = at(tasks, task);
        need(in(steps, 0, 20000));
        boolean right = stateSum(t, steps) == sum;
        h.kept += right ? 1 : 0;
        h.lies += right ? 0 : 1;
        return right;
    }

    private int bids() {
        return tasks.stream().flatMap(t -> t.pieces.stream()).mapToInt(p -> p.bids.size()).sum();
    }

    int bid(int task, int piece, int house, int price, int hours, int pledge) {
        Piece p = pieceAt(task, piece);
        at(houses, house);
        need(in(price, 0, 1000000) && in(pledge, 0, 1000000) && in(hours, 1, 1000));
        if (!p.state.equals("open")) {
            return -1;
        }
        if (bids() == 24 && !p.bids.containsKey(house)) {
            return -2;
        }
        p.bids.put(house, new Bid(price, hours, pledge));
        return 1;
    }

    private long costOf(Piece p, int house) {
        House h = houses.get(house);
        long steps = p.last - p.first;
        return 100L * p.bids.get(house).price() + steps * 100 * (h.lies + 1) / (h.kept + h.lies + 2);
    }

    long cost(int task, int piece, int house) {
        Piece p = pieceAt(task, piece);
        at(houses, house);
        return p.bids.containsKey(house) ? costOf(p, house) : -1;
    }

    long chosen(int task, int pieces, int hours, int what) {
        Task t = at(tasks, task);
        List<Integer> wanted = new ArrayList<>();
        for (int j = 0; j < 32; j++) {
            if ((pieces >>> j & 1) == 1) {
                need(j < t.pieces.size());
                wanted.add(j);
            }
        }
        need(in(wanted.size(), 1, 5) && in(hours, 1, 5000) && in(what, -1, 19));
        int ways = 1;
        for (int j : wanted) {
            ways *= t.pieces.get(j).bids.size();
        }
        long least = Long.MAX_VALUE;
        List<Integer> best = null;
        for (int way = 0; way < ways; way++) {
            List<Integer> houseOf = wayOf(t, wanted, way);
            long cost = 0;
            for (int i = 0; i < wanted.size(); i++) {
                cost += costOf(t.pieces.get(wanted.get(i)), houseOf.get(i));
            }
            boolean better = best == null || cost < least || cost == least && before(houseOf, best);
            if (better && fits(t, wanted, houseOf, hours)) {
                least = cost;
                best = houseOf;
            }
        }
        if (best == null) {
            return -2;
        }
        return what == -1 ? least : wanted.contains(what) ? best.get(wanted.indexOf(what)) : -1;
    }

    private static List<Integer> wayOf(Task t, List<Integer> wanted, int way) {
        List<Integer> houseOf = new ArrayList<>();
        for (int j : wanted) {
            List<Integer> bidders = new ArrayList<>(t.pieces.get(j).bids.keySet());
            houseOf.add(bidders.get(way % bidders.size()));
            way /= bidders.size();
        }
        return houseOf;
    }

    private static boolean before(List<Integer> one, List<Integer> other) {
        for (int i = 0; i < one.size(); i++) {
            if (!one.get(i).equals(other.get(i))) {
                return one.get(i) < other.get(i);
            }
        }
        return false;
    }

    private boolean fits(Task t, List<Integer> wanted, List<Integer> houseOf, int hours) {
        long[] used = new long[8];
        long[] pledged = new long[8];
        for (int i = 0; i < wanted.size(); i++) {
            Bid bid = t.pieces.get(wanted.get(i)).bids.get(houseOf.get(i));
            used[houseOf.get(i)] += bid.hours();
            pledged[houseOf.get(i)] += bid.pledge();
        }
        for (int h = 0; h < houses.size(); h++) {
            if (used[h] > hours || pledged[h] > houses.get(h).coins) {
                return false;
            }
        }
        return true;
    }

    int linear(int task) {
        return leavesLinear(at(tasks, task).text);
    }

    int lot(int task, int k, int place, int value) {
        Task t = at(tasks, task);
        need(in(k, 0, 6) && in(place, 0, 63));
        int was = t.lots[k][place];
        t.lots[k][place] = value;
        return was;
    }

    private static int[] partOf(Task t, int n, int k) {
        if (k < n - 1) {
            return t.lots[k];
        }
        int[] rest = t.memory.clone();
        for (int i = 0; i < n - 1; i++) {
            for (int place = 0; place < 64; place++) {
                rest[place] -= t.lots[i][place];
            }
        }
        return rest;
    }

    int part(int task, int n, int k, int place) {
        Task t = at(tasks, task);
        need(in(n, 2, 8));
        need(in(k, 0, n - 1) && in(place, 0, 63));
        return partOf(t, n, k)[place];
    }

    private static int outFor(Task t, int[] memory, int j) {
        List<Integer> outs = new ArrayList<>();
        int[] c = stateOf(t, memory, 20000, outs);
        return c[128] < 0 || j >= outs.size() ? 0 : outs.get(j);
    }

    int out(int task, int n, int j) {
        Task t = at(tasks, task);
        need((n == 0 || in(n, 2, 8)) && in(j, 0, 9));
        if (n == 0) {
            return outFor(t, t.memory, j);
        }
        int all = 0;
        for (int k = 0; k < n; k++) {
            all += outFor(t, partOf(t, n, k), j);
        }
        return all;
    }

    int count(int what) {
        int held = 0;
        int free = chest;
        for (Task t : tasks) {
            free += t.purse;
            for (Piece p : t.pieces) {
                boolean open = p.state.equals("open") || p.state.equals("kept");
                held += open ? 0 : p.price;
                held += List.of("given", "claimed", "quarrel").contains(p.state) ? p.pledge : 0;
                held += p.state.equals("quarrel") ? p.pledge : 0;
            }
        }
        for (House h : houses) {
            free += h.coins;
        }
        int[] counts = {now, tasks.size(), houses.size(), chest, held, bids(), tape.size(), held + free};
        return in(what, 0, 7) ? counts[what] : -1;
    }

    int purse(int task) {
        return at(tasks, task).purse;
    }
}
