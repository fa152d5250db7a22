/** A hall where strangers do others' work; ../shared/DOC.md says what each call answers. */
public final class StrangerHall {
    public static final int NONE = -1;

    private static final int MOST_BYTES = 400;
    private static final int FED_BYTES = 20;
    private static final int MOST_TASKS = 6;
    private static final int MOST_CODE = 200;
    private static final int MOST_STEPS = 20000;
    private static final int LEAST_CUT = 10;
    private static final int MOST_PIECES = 20;
    private static final int MOST_HOUSES = 8;
    private static final int MOST_COINS = 1000000;
    private static final int MOST_TICKS = 1000;
    private static final int LAST_TICK = 100000;
    private static final int NEVER = 2147483647;
    private static final int MOST_BIDS = 24;
    private static final int MOST_CHOSEN = 5;
    private static final int MOST_BID_HOURS = 1000;
    private static final int MOST_CHOSEN_HOURS = 5000;
    private static final int MEMORY_SIZE = 64;
    private static final int LEAST_PARTS = 2;
    private static final int MOST_PARTS = 8;
    private static final int MOST_OUTS = 10;
    private static final int CELLS = 128;
    private static final int PAGES = 16;
    private static final int PAGE_SIZE = 8;
    private static final int LEVELS = 4;

    private static final int HALT = 0;
    private static final int PUSH = 1;
    private static final int LOAD = 2;
    private static final int STORE = 3;
    private static final int PEEK = 4;
    private static final int POKE = 5;
    private static final int PLUS = 6;
    private static final int MINUS = 7;
    private static final int TIMES = 8;
    private static final int DIVIDED = 9;
    private static final int REST = 10;
    private static final int LESS = 11;
    private static final int MORE = 12;
    private static final int SAME = 13;
    private static final int JUMP = 14;
    private static final int ZERO = 15;
    private static final int OUT = 16;

    private static final int OPEN = 0;
    private static final int GIVEN = 1;
    private static final int CLAIMED = 2;
    private static final int QUARREL = 3;
    private static final int KEPT = 4;
    private static final int WAITING = 5;

    private static final int WINDOW = 0;
    private static final int TURN = 1;
    private static final int SHARE = 2;

    private final Compiler compiler = new Compiler();
    private final Court court = new Court();
    private final Chooser chooser = new Chooser();
    private final Task[] tasks = new Task[MOST_TASKS];
    private int taskCount;
    private int houseCount;
    private int bidCount;
    private int faultPlace = NONE;

    public StrangerHall() {
        for (int i = 0; i < MOST_TASKS; i++) {
            tasks[i] = new Task();
        }
    }

    public int feed(int a, int b, int c, int d, int e) {
        Tape tape = compiler.tape;
        if (tape.size + FED_BYTES > MOST_BYTES) {
            return NONE;
        }
        tape.add(a);
        tape.add(b);
        tape.add(c);
        tape.add(d);
        tape.add(e);
        return tape.size;
    }

    public int task(int purse, int n) throws IllegalArgumentException {
        Tape tape = compiler.tape;
        if (!isWithin(purse, 0, MOST_COINS) || !isWithin(n, 0, tape.size)) {
            throw new IllegalArgumentException();
        }
        tape.size = 0;
        faultPlace = NONE;
        if (taskCount >= MOST_TASKS) {
            return -1;
        }
        int fault = compiler.compile(n);
        if (fault != 0) {
            faultPlace = compiler.place;
            return fault - 10;
        }
        tasks[taskCount].begin(compiler, Linear.leaves(tape, n), purse);
        taskCount++;
        return taskCount - 1;
    }

    public int fault() {
        return faultPlace;
    }

    public int code(int task, int k, int what) throws IndexOutOfBoundsException, IllegalArgumentException {
        Task work = taskAt(task);
        if (what != 0 && what != 1) {
            throw new IllegalArgumentException();
        }
        if (!work.hasCode(k)) {
            return NONE;
        }
        return what == 0 ? work.kinds[k] : work.numbers[k];
    }

    public int memory(int task, int place, int value) throws IndexOutOfBoundsException, IllegalArgumentException {
        Task work = taskAt(task);
        if (!isWithin(place, 0, MEMORY_SIZE - 1)) {
            throw new IllegalArgumentException();
        }
        if (work.pieceCount > 0) {
            return -1;
        }
        work.memory[place] = value;
        court.machine.forget();
        return 1;
    }

    public int length(int task) throws IndexOutOfBoundsException {
        return court.machine.lengthOf(taskAt(task));
    }

    public int cell(int task, int steps, int cell) throws IndexOutOfBoundsException, IllegalArgumentException {
        Task work = taskAt(task);
        if (!isWithin(cell, 0, CELLS - 1) || !isWithin(steps, 0, MOST_STEPS)) {
            throw new IllegalArgumentException();
        }
        court.machine.show(work, steps);
        return court.machine.cells[cell];
    }

    public int sum(int task, int steps) throws IndexOutOfBoundsException, IllegalArgumentException {
        Task work = taskAt(task);
        if (!isWithin(steps, 0, MOST_STEPS)) {
            throw new IllegalArgumentException();
        }
        return court.machine.sumOf(work, steps);
    }

    public int beside(int task, int steps, int page, int level) throws IndexOutOfBoundsException, IllegalArgumentException {
        Task work = taskAt(task);
        if (!isWithin(page, 0, PAGES - 1) || !isWithin(level, 0, LEVELS - 1) || !isWithin(steps, 0, MOST_STEPS)) {
            throw new IllegalArgumentException();
        }
        court.machine.sumOf(work, steps);
        return court.machine.besideOf(page, level);
    }

    public int both(int left, int right) {
        return joined(left, right);
    }

    public boolean shown(int task, int steps, int page, int sum) throws IndexOutOfBoundsException, IllegalArgumentException {
        Task work = taskAt(task);
        if (!isWithin(page, 0, PAGES - 1) || !isWithin(steps, 0, MOST_STEPS)) {
            throw new IllegalArgumentException();
        }
        int due = court.machine.sumOf(work, steps);
        return court.machine.climb(page, sum) == due;
    }

    public int cut(int task, int steps) throws IndexOutOfBoundsException, IllegalArgumentException {
        Task work = taskAt(task);
        if (!isWithin(steps, LEAST_CUT, MOST_STEPS)) {
            throw new IllegalArgumentException();
        }
        if (work.pieceCount > 0) {
            return -1;
        }
        int length = court.machine.lengthOf(work);
        if (length == NONE) {
            return -2;
        }
        int pieces = (length + steps - 1) / steps;
        if (!isWithin(pieces, 1, MOST_PIECES)) {
            return -3;
        }
        work.divide(pieces, steps, length);
        return pieces;
    }

    public int house(int coins) throws IllegalArgumentException {
        if (!isWithin(coins, 0, MOST_COINS)) {
            throw new IllegalArgumentException();
        }
        if (houseCount >= MOST_HOUSES) {
            return -1;
        }
        court.houses[houseCount].coins = coins;
        houseCount++;
        return houseCount - 1;
    }

    public int told(int house, int what) throws IndexOutOfBoundsException, IllegalArgumentException {
        House asked = houseAt(house);
        switch (what) {
            case 0:
                return asked.coins;
            case 1:
                return asked.kept;
            case 2:
                return asked.lies;
            default:
                throw new IllegalArgumentException();
        }
    }

    public int rule(int what, int v) throws IllegalArgumentException {
        if (!isWithin(what, WINDOW, SHARE) || !isWithin(v, what == SHARE ? 0 : 1, 100)) {
            throw new IllegalArgumentException();
        }
        int before = court.rules[what];
        court.rules[what] = v;
        return before;
    }

    public int give(int task, int piece, int house, int price, int pledge, int ticks) throws IndexOutOfBoundsException, IllegalArgumentException {
        Task work = taskAt(task);
        Piece given = pieceAt(work, piece);
        House taker = houseAt(house);
        if (!isWithin(price, 0, MOST_COINS) || !isWithin(pledge, 0, MOST_COINS) || !isWithin(ticks, 1, MOST_TICKS)) {
            throw new IllegalArgumentException();
        }
        if (given.state != OPEN) {
            return -1;
        }
        if (work.coins < price) {
            return -2;
        }
        if (taker.coins < pledge) {
            return -3;
        }
        work.coins -= price;
        taker.coins -= pledge;
        given.giveTo(house, price, pledge, court.now + ticks);
        bidCount -= given.dropBids();
        return 1;
    }

    public int claim(int task, int piece, int sum) throws IndexOutOfBoundsException {
        Piece claimed = pieceAt(taskAt(task), piece);
        if (claimed.state != GIVEN) {
            return -1;
        }
        claimed.state = CLAIMED;
        claimed.number = sum;
        claimed.claimTick = court.now;
        return 1;
    }

    public int doubt(int task, int piece, int house, int sum) throws IndexOutOfBoundsException {
        Task work = taskAt(task);
        Piece doubted = pieceAt(work, piece);
        House doubter = houseAt(house);
        if (doubted.state != CLAIMED) {
            return -1;
        }
        if (doubted.house == house) {
            return -2;
        }
        if (doubted.number == sum) {
            return -3;
        }
        if (!work.isEndToldAhead(piece)) {
            return -4;
        }
        if (doubter.coins < doubted.pledge) {
            return -5;
        }
        doubter.coins -= doubted.pledge;
        court.beginQuarrel(work, piece, house, sum);
        court.judgeIfNarrow(work, piece);
        return 1;
    }

    public int piece(int task, int piece, int what) throws IndexOutOfBoundsException, IllegalArgumentException {
        Piece asked = pieceAt(taskAt(task), piece);
        boolean quarrels = asked.state == QUARREL;
        switch (what) {
            case 0:
                return asked.state;
            case 1:
                return asked.house;
            case 2:
                return asked.first;
            case 3:
                return asked.last;
            case 4:
                return quarrels ? asked.quarrel.doubter : NONE;
            case 5:
                return quarrels ? asked.quarrel.start : NONE;
            case 6:
                return quarrels ? asked.quarrel.end : NONE;
            case 7:
                return quarrels ? asked.quarrel.middle() : NONE;
            case 8:
                return asked.failures;
            case 9:
                return asked.number;
            default:
                throw new IllegalArgumentException();
        }
    }

    public int answer(int task, int piece, boolean claimer, int sum) throws IndexOutOfBoundsException {
        Task work = taskAt(task);
        Piece asked = pieceAt(work, piece);
        if (asked.state != QUARREL) {
            return -1;
        }
        if (asked.quarrel.hasTold(claimer)) {
            return -2;
        }
        asked.quarrel.tell(claimer, sum, court.now);
        return court.judgeIfNarrow(work, piece) ? 2 : 1;
    }

    public int tick(int ticks) throws IllegalArgumentException, IllegalStateException {
        if (!isWithin(ticks, 0, MOST_TICKS)) {
            throw new IllegalArgumentException();
        }
        if (court.now + ticks > LAST_TICK) {
            throw new IllegalStateException();
        }
        int target = court.now + ticks;
        // Nothing comes due in a tick that is passed over, and nothing that lapses makes a new due tick.
        for (int i = 0; i < ticks && court.now < target; i++) {
            court.now = Math.max(court.now + 1, Math.min(target, earliestDue()));
            lapseWhatIsDue();
        }
        return court.now;
    }

    public boolean trial(int house, int task, int steps, int sum) throws IndexOutOfBoundsException, IllegalArgumentException {
        House tried = houseAt(house);
        Task work = taskAt(task);
        if (!isWithin(steps, 0, MOST_STEPS)) {
            throw new IllegalArgumentException();
        }
        boolean right = court.machine.sumOf(work, steps) == sum;
        if (right) {
            tried.kept++;
        } else {
            tried.lies++;
        }
        return right;
    }

    public int bid(int task, int piece, int house, int price, int hours, int pledge) throws IndexOutOfBoundsException, IllegalArgumentException {
        Piece wanted = pieceAt(taskAt(task), piece);
        houseAt(house);
        if (!isWithin(price, 0, MOST_COINS) || !isWithin(pledge, 0, MOST_COINS) || !isWithin(hours, 1, MOST_BID_HOURS)) {
            throw new IllegalArgumentException();
        }
        if (wanted.state != OPEN) {
            return -1;
        }
        boolean isNew = !wanted.hasBid(house);
        if (isNew && bidCount >= MOST_BIDS) {
            return -2;
        }
        wanted.setBid(house, price, hours, pledge);
        if (isNew) {
            bidCount++;
        }
        return 1;
    }

    public long cost(int task, int piece, int house) throws IndexOutOfBoundsException {
        Piece wanted = pieceAt(taskAt(task), piece);
        House bidder = houseAt(house);
        return wanted.hasBid(house) ? wanted.bidCost(house, bidder) : NONE;
    }

    public long chosen(int task, int pieces, int hours, int what) throws IndexOutOfBoundsException, IllegalArgumentException {
        Task work = taskAt(task);
        if (pieces >>> work.pieceCount != 0 || !isWithin(Integer.bitCount(pieces), 1, MOST_CHOSEN)) {
            throw new IllegalArgumentException();
        }
        if (!isWithin(hours, 1, MOST_CHOSEN_HOURS) || !isWithin(what, -1, MOST_PIECES - 1)) {
            throw new IllegalArgumentException();
        }
        if (!chooser.findBest(work, pieces, hours, court.houses)) {
            return -2;
        }
        return what == -1 ? chooser.bestCost : chooser.houseFor(what);
    }

    public int linear(int task) throws IndexOutOfBoundsException {
        return taskAt(task).leaves;
    }

    public int lot(int task, int k, int place, int value) throws IndexOutOfBoundsException, IllegalArgumentException {
        Task work = taskAt(task);
        if (!isWithin(k, 0, MOST_PARTS - 2) || !isWithin(place, 0, MEMORY_SIZE - 1)) {
            throw new IllegalArgumentException();
        }
        int before = work.lots[k][place];
        work.lots[k][place] = value;
        return before;
    }

    public int part(int task, int n, int k, int place) throws IndexOutOfBoundsException, IllegalArgumentException {
        Task work = taskAt(task);
        if (!isWithin(n, LEAST_PARTS, MOST_PARTS) || !isWithin(k, 0, n - 1) || !isWithin(place, 0, MEMORY_SIZE - 1)) {
            throw new IllegalArgumentException();
        }
        return work.partOf(n, k, place);
    }

    public int out(int task, int n, int j) throws IndexOutOfBoundsException, IllegalArgumentException {
        Task work = taskAt(task);
        if (n != 0 && !isWithin(n, LEAST_PARTS, MOST_PARTS) || !isWithin(j, 0, MOST_OUTS - 1)) {
            throw new IllegalArgumentException();
        }
        if (n == 0) {
            return court.machine.outOf(work, j);
        }
        int together = 0;
        for (int k = 0; k < n; k++) {
            together += court.machine.outOfPart(work, n, k, j);
        }
        return together;
    }

    public int count(int what) {
        switch (what) {
            case 0:
                return court.now;
            case 1:
                return taskCount;
            case 2:
                return houseCount;
            case 3:
                return court.chest;
            case 4:
                return heldCoins();
            case 5:
                return bidCount;
            case 6:
                return compiler.tape.size;
            case 7:
                return heldCoins() + freeCoins();
            default:
                return NONE;
        }
    }

    public int purse(int task) throws IndexOutOfBoundsException {
        return taskAt(task).coins;
    }

    private static boolean isWithin(int number, int least, int most) {
        return number >= least && number <= most;
    }

    private static int joined(int left, int right) {
        return 1000003 * left + 7 * right + 1;
    }

    private Task taskAt(int task) {
        if (task < 0 || task >= taskCount || task >= MOST_TASKS) {
            throw new IndexOutOfBoundsException();
        }
        return tasks[task];
    }

    private Piece pieceAt(Task work, int piece) {
        if (!work.hasPiece(piece)) {
            throw new IndexOutOfBoundsException();
        }
        return work.pieces[piece];
    }

    private House houseAt(int house) {
        if (house < 0 || house >= houseCount || house >= MOST_HOUSES) {
            throw new IndexOutOfBoundsException();
        }
        return court.houses[house];
    }

    private int earliestDue() {
        int earliest = NEVER;
        for (int t = 0; t < taskCount && t < MOST_TASKS; t++) {
            Task work = tasks[t];
            for (int p = 0; p < work.pieceCount && p < MOST_PIECES; p++) {
                earliest = Math.min(earliest, court.dueTick(work.pieces[p]));
            }
        }
        return earliest;
    }

    private void lapseWhatIsDue() {
        for (int t = 0; t < taskCount && t < MOST_TASKS; t++) {
            Task work = tasks[t];
            for (int p = 0; p < work.pieceCount && p < MOST_PIECES; p++) {
                if (court.dueTick(work.pieces[p]) <= court.now) {
                    court.lapse(work, p);
                }
            }
        }
    }

    private int heldCoins() {
        int held = 0;
        for (int t = 0; t < taskCount && t < MOST_TASKS; t++) {
            Task work = tasks[t];
            for (int p = 0; p < work.pieceCount && p < MOST_PIECES; p++) {
                held += work.pieces[p].heldCoins();
            }
        }
        return held;
    }

    private int freeCoins() {
        int free = court.chest;
        for (int t = 0; t < taskCount && t < MOST_TASKS; t++) {
            free += tasks[t].coins;
        }
        for (int h = 0; h < houseCount && h < MOST_HOUSES; h++) {
            free += court.houses[h].coins;
        }
        return free;
    }

    /** The bytes that were fed, and the token of them that is read now. */
    private static final class Tape {
        private static final int END = 0;
        private static final int NUMBER = 1;
        private static final int WORD = 2;
        private static final int SIGN = 3;
        private static final int MOST_NUMBER = 99999;

        private final int[] bytes = new int[MOST_BYTES];
        private int size;
        private int limit;
        private int next;
        private int kind;
        private int first;
        private int value;

        private void add(int number) {
            for (int shift = 24; shift >= 0 && size < MOST_BYTES; shift -= 8) {
                bytes[size] = (number >>> shift) & 255;
                size++;
            }
        }

        private void begin(int limit) {
            this.limit = Math.min(limit, MOST_BYTES);
            next = 0;
            advance();
        }

        private void advance() {
            while (next < limit && bytes[next] == ' ') {
                next++;
            }
            first = next;
            value = 0;
            if (next >= limit) {
                kind = END;
            } else if (isDigit(bytes[next])) {
                kind = NUMBER;
                readNumber();
            } else if (isLetter(bytes[next])) {
                kind = WORD;
                readWord();
            } else {
                kind = SIGN;
                value = bytes[next];
                next++;
            }
        }

        private void readNumber() {
            while (next < limit && isDigit(bytes[next])) {
                // Held just above the limit, so that no row of digits wraps back below it.
                value = Math.min(MOST_NUMBER + 1, value * 10 + bytes[next] - '0');
                next++;
            }
        }

        private void readWord() {
            while (next < limit && isLetter(bytes[next])) {
                next++;
            }
        }

        private static boolean isDigit(int b) {
            return b >= '0' && b <= '9';
        }

        private static boolean isLetter(int b) {
            return b >= 'a' && b <= 'z';
        }

        private boolean isSign(int sign) {
            return kind == SIGN && value == sign;
        }

        private boolean isWord(String word) {
            if (kind != WORD || next - first != word.length()) {
                return false;
            }
            for (int i = 0; i < word.length() && first + i < limit; i++) {
                if (bytes[first + i] != word.charAt(i)) {
                    return false;
                }
            }
            return true;
        }

        /** Which of a to h the token is, from 0 on, or NONE. */
        private int variable() {
            if (kind != WORD || next - first != 1 || first >= limit || bytes[first] > 'h') {
                return NONE;
            }
            return bytes[first] - 'a';
        }

        private boolean takesSign(int sign) {
            if (!isSign(sign)) {
                return false;
            }
            advance();
            return true;
        }

        private boolean takesWord(String word) {
            if (!isWord(word)) {
                return false;
            }
            advance();
            return true;
        }

        private boolean takesNumber() {
            if (kind != NUMBER) {
                return false;
            }
            advance();
            return true;
        }
    }

    /** Makes a text's code; every method that reads answers false once there is a fault. */
    private static final class Compiler {
        private static final int CANT_STAND = 1;
        private static final int TOO_HIGH = 2;
        private static final int TOO_DEEP = 3;
        private static final int TOO_LONG = 4;
        private static final int MOST_BRACKETS = 6;
        private static final int RELATIONS = 0;
        private static final int TERMS = 1;
        private static final int FACTORS = 2;

        private final Tape tape = new Tape();
        private final int[] kinds = new int[MOST_CODE];
        private final int[] numbers = new int[MOST_CODE];
        private int size;
        private int fault;
        private int place;

        /** The fault of the tape's first bytes as a task, or 0. */
        private int compile(int bytes) {
            size = 0;
            fault = 0;
            tape.begin(bytes);
            if (!statements(0)) {
                return fault;
            }
            if (tape.kind != Tape.END) {
                refuse(CANT_STAND);
                return fault;
            }
            emit(HALT, 0);
            if (size > MOST_CODE) {
                refuse(TOO_LONG);
            }
            return fault;
        }

        private boolean refuse(int why) {
            fault = why;
            place = tape.first;
            return false;
        }

        private boolean emit(int kind, int number) {
            if (size < MOST_CODE) {
                kinds[size] = kind;
                numbers[size] = number;
            }
            size++;
            return true;
        }

        private void aim(int at) {
            if (at >= 0 && at < MOST_CODE) {
                numbers[at] = size;
            }
        }

        private boolean expect(int sign) {
            return tape.takesSign(sign) || refuse(CANT_STAND);
        }

        /** The number of open brackets bounds the depth of all that is read. */
        private boolean opens(int bracket, int open) {
            if (!tape.isSign(bracket)) {
                return refuse(CANT_STAND);
            }
            if (open >= MOST_BRACKETS) {
                return refuse(TOO_DEEP);
            }
            tape.advance();
            return true;
        }

        private boolean statements(int open) {
            for (int i = 0; i < MOST_BYTES && tape.kind == Tape.WORD; i++) {
                if (!statement(open)) {
                    return false;
                }
            }
            return true;
        }

        private boolean statement(int open) {
            int variable = tape.variable();
            if (variable != NONE) {
                tape.advance();
                return expect('=') && expression(RELATIONS, open) && expect(';') && emit(STORE, variable);
            }
            if (tape.takesWord("m")) {
                return enclosed('[', ']', open) && expect('=') && expression(RELATIONS, open) && expect(';') && emit(POKE, 0);
            }
            if (tape.takesWord("out")) {
                return expression(RELATIONS, open) && expect(';') && emit(OUT, 0);
            }
            if (tape.takesWord("while")) {
                return loop(open);
            }
            if (tape.takesWord("if")) {
                return branch(open);
            }
            return refuse(CANT_STAND);
        }

        private boolean loop(int open) {
            int start = size;
            if (!expression(RELATIONS, open)) {
                return false;
            }
            int zero = size;
            emit(ZERO, 0);
            if (!block(open)) {
                return false;
            }
            emit(JUMP, start);
            aim(zero);
            return true;
        }

        private boolean branch(int open) {
            if (!expression(RELATIONS, open)) {
                return false;
            }
            int zero = size;
            emit(ZERO, 0);
            if (!block(open)) {
                return false;
            }
            if (!tape.takesWord("else")) {
                aim(zero);
                return true;
            }
            int jump = size;
            emit(JUMP, 0);
            aim(zero);
            if (!block(open)) {
                return false;
            }
            aim(jump);
            return true;
        }

        private boolean block(int open) {
            return opens('{', open) && statements(open + 1) && expect('}');
        }

        private boolean enclosed(int left, int right, int open) {
            return opens(left, open) && expression(RELATIONS, open + 1) && expect(right);
        }

        private boolean expression(int level, int open) {
            boolean good = operand(level, open);
            for (int i = 0; i < MOST_BYTES && good && signLevel(signKind()) == level; i++) {
                int kind = signKind();
                tape.advance();
                good = operand(level, open) && emit(kind, 0);
            }
            return good;
        }

        private boolean operand(int level, int open) {
            return level >= FACTORS ? unit(open) : expression(level + 1, open);
        }

        private boolean unit(int open) {
            if (tape.kind == Tape.NUMBER) {
                return number();
            }
            int variable = tape.variable();
            if (variable != NONE) {
                tape.advance();
                return emit(LOAD, variable);
            }
            if (tape.takesWord("m")) {
                return enclosed('[', ']', open) && emit(PEEK, 0);
            }
            return enclosed('(', ')', open);
        }

        private boolean number() {
            if (tape.value > Tape.MOST_NUMBER) {
                return refuse(TOO_HIGH);
            }
            emit(PUSH, tape.value);
            tape.advance();
            return true;
        }

        private int signKind() {
            if (tape.kind != Tape.SIGN) {
                return NONE;
            }
            switch (tape.value) {
                case '+':
                    return PLUS;
                case '-':
                    return MINUS;
                case '*':
                    return TIMES;
                case '/':
                    return DIVIDED;
                case '%':
                    return REST;
                case '<':
                    return LESS;
                case '>':
                    return MORE;
                case '=':
                    return SAME;
                default:
                    return NONE;
            }
        }

        private static int signLevel(int kind) {
            if (kind == NONE) {
                return NONE;
            }
            if (kind >= LESS) {
                return RELATIONS;
            }
            return kind >= TIMES ? FACTORS : TERMS;
        }
    }

    /** Looks where a text that is a task leaves the linear form. */
    private static final class Linear {
        private static int leaves(Tape tape, int bytes) {
            tape.begin(bytes);
            for (int i = 0; i < MOST_BYTES && tape.isWord("out"); i++) {
                tape.advance();
                if (!terms(tape)) {
                    return tape.first;
                }
            }
            return tape.kind == Tape.END ? NONE : tape.first;
        }

        private static boolean terms(Tape tape) {
            boolean good = term(tape);
            for (int i = 0; i < MOST_BYTES && good && (tape.isSign('+') || tape.isSign('-')); i++) {
                tape.advance();
                good = term(tape);
            }
            return good && tape.takesSign(';');
        }

        private static boolean term(Tape tape) {
            if (tape.takesNumber() && !tape.takesSign('*')) {
                return false;
            }
            return tape.takesWord("m") && tape.takesSign('[') && tape.takesNumber() && tape.takesSign(']');
        }
    }

    /** A text's code, what was told for its memory, its purse and its pieces. */
    private static final class Task {
        private final int[] kinds = new int[MOST_CODE];
        private final int[] numbers = new int[MOST_CODE];
        private final int[] memory = new int[MEMORY_SIZE];
        private final int[][] lots = new int[MOST_PARTS - 1][MEMORY_SIZE];
        private final Piece[] pieces = new Piece[MOST_PIECES];
        private int size;
        private int leaves;
        private int coins;
        private int pieceCount;

        private Task() {
            for (int i = 0; i < MOST_PIECES; i++) {
                pieces[i] = new Piece();
            }
        }

        private void begin(Compiler compiler, int leaves, int coins) {
            size = Math.min(compiler.size, MOST_CODE);
            for (int i = 0; i < size; i++) {
                kinds[i] = compiler.kinds[i];
                numbers[i] = compiler.numbers[i];
            }
            this.leaves = leaves;
            this.coins = coins;
        }

        private boolean hasCode(int k) {
            return k >= 0 && k < size && k < MOST_CODE;
        }

        private boolean hasPiece(int piece) {
            return piece >= 0 && piece < pieceCount && piece < MOST_PIECES;
        }

        private void divide(int count, int steps, int length) {
            for (int i = 0; i < count && i < MOST_PIECES; i++) {
                pieces[i].first = i * steps;
                pieces[i].last = Math.min(length, (i + 1) * steps);
            }
            pieceCount = count;
        }

        private boolean isEndToldAhead(int piece) {
            if (piece <= 0 || piece > MOST_PIECES) {
                return true;
            }
            int state = pieces[piece - 1].state;
            return state == CLAIMED || state == WAITING || state == KEPT;
        }

        private int partOf(int n, int k, int place) {
            if (place < 0 || place >= MEMORY_SIZE || k < 0 || k >= MOST_PARTS) {
                return 0;
            }
            if (k < n - 1 && k < MOST_PARTS - 1) {
                return lots[k][place];
            }
            int rest = memory[place];
            for (int i = 0; i < n - 1 && i < MOST_PARTS - 1; i++) {
                rest -= lots[i][place];
            }
            return rest;
        }
    }

    /** Runs one task's code at a time; it goes on from where it stands, if it can. */
    private static final class Machine {
        private static final int PLACE = 0;
        private static final int PILED = 1;
        private static final int OUTS = 2;
        private static final int OUT_SUM = 3;
        private static final int VARIABLES = 4;
        private static final int VARIABLE_MASK = 7;
        private static final int PILE = 32;
        private static final int PILE_SIZE = 32;
        private static final int MEMORY = 64;
        private static final int MEMORY_MASK = MEMORY_SIZE - 1;

        private final int[] cells = new int[CELLS];
        private final int[] outs = new int[MOST_OUTS];
        // The pages' sums from PAGES on; a node's two parts stand at twice its place and behind it.
        private final int[] tree = new int[2 * PAGES];
        private Task running;
        private int done;

        private void forget() {
            running = null;
        }

        private void show(Task task, int steps) {
            if (running != task || steps < done) {
                clear();
                for (int i = 0; i < MEMORY_SIZE; i++) {
                    cells[MEMORY + i] = task.memory[i];
                }
                running = task;
            }
            runTo(task, steps);
        }

        private void clear() {
            for (int i = 0; i < CELLS; i++) {
                cells[i] = 0;
            }
            for (int i = 0; i < MOST_OUTS; i++) {
                outs[i] = 0;
            }
            done = 0;
        }

        private void runTo(Task task, int steps) {
            for (int i = done; i < steps && !isHalted(task); i++) {
                int place = cells[PLACE];
                if (task.hasCode(place)) {
                    step(task.kinds[place], task.numbers[place]);
                }
                done++;
            }
        }

        private boolean isHalted(Task task) {
            int place = cells[PLACE];
            return !task.hasCode(place) || task.kinds[place] == HALT;
        }

        private int lengthOf(Task task) {
            show(task, MOST_STEPS);
            return isHalted(task) ? done : NONE;
        }

        private int outOf(Task task, int j) {
            show(task, MOST_STEPS);
            return isHalted(task) && isWithin(j, 0, MOST_OUTS - 1) ? outs[j] : 0;
        }

        private int outOfPart(Task task, int n, int k, int j) {
            forget();
            clear();
            for (int i = 0; i < MEMORY_SIZE; i++) {
                cells[MEMORY + i] = task.partOf(n, k, i);
            }
            runTo(task, MOST_STEPS);
            return isHalted(task) && isWithin(j, 0, MOST_OUTS - 1) ? outs[j] : 0;
        }

        private void step(int kind, int number) {
            cells[PLACE]++;
            switch (kind) {
                case PUSH:
                    push(number);
                    break;
                case LOAD:
                    push(cells[VARIABLES + (number & VARIABLE_MASK)]);
                    break;
                case STORE:
                    cells[VARIABLES + (number & VARIABLE_MASK)] = pop();
                    break;
                case PEEK:
                    push(cells[MEMORY + (pop() & MEMORY_MASK)]);
                    break;
                case POKE:
                    int value = pop();
                    cells[MEMORY + (pop() & MEMORY_MASK)] = value;
                    break;
                case JUMP:
                    cells[PLACE] = number;
                    break;
                case ZERO:
                    if (pop() == 0) {
                        cells[PLACE] = number;
                    }
                    break;
                case OUT:
                    putOut(pop());
                    break;
                default:
                    int right = pop();
                    push(worked(kind, pop(), right));
                    break;
            }
        }

        private void push(int value) {
            int piled = cells[PILED];
            if (piled >= 0 && piled < PILE_SIZE) {
                cells[PILE + piled] = value;
                cells[PILED] = piled + 1;
            }
        }

        private int pop() {
            int piled = cells[PILED];
            if (piled <= 0 || piled > PILE_SIZE) {
                return 0;
            }
            int value = cells[PILE + piled - 1];
            cells[PILE + piled - 1] = 0;
            cells[PILED] = piled - 1;
            return value;
        }

        private void putOut(int value) {
            int number = cells[OUTS];
            if (number >= 0 && number < MOST_OUTS) {
                outs[number] = value;
            }
            cells[OUTS] = number + 1;
            cells[OUT_SUM] = 31 * cells[OUT_SUM] + value;
        }

        private static int worked(int kind, int left, int right) {
            switch (kind) {
                case PLUS:
                    return left + right;
                case MINUS:
                    return left - right;
                case TIMES:
                    return left * right;
                case DIVIDED:
                    return right == 0 ? 0 : left / right;
                case REST:
                    return right == 0 ? 0 : left % right;
                case LESS:
                    return left < right ? 1 : 0;
                case MORE:
                    return left > right ? 1 : 0;
                case SAME:
                    return left == right ? 1 : 0;
                default:
                    return 0;
            }
        }

        private int sumOf(Task task, int steps) {
            show(task, steps);
            for (int page = 0; page < PAGES; page++) {
                tree[PAGES + page] = pageSum(page);
            }
            for (int node = PAGES - 1; node > 0; node--) {
                tree[node] = joined(tree[2 * node], tree[2 * node + 1]);
            }
            return tree[1];
        }

        private int pageSum(int page) {
            int sum = 17;
            for (int i = page * PAGE_SIZE; i < (page + 1) * PAGE_SIZE && i >= 0 && i < CELLS; i++) {
                sum = 31 * sum + cells[i];
            }
            return sum;
        }

        private int besideOf(int page, int level) {
            int node = ((PAGES + (page & PAGES - 1)) >> (level & LEVELS - 1)) ^ 1;
            return tree[node];
        }

        /** What a page's sum makes with those beside its way up. */
        private int climb(int page, int sum) {
            int made = sum;
            for (int level = 0; level < LEVELS; level++) {
                int beside = besideOf(page, level);
                boolean isLeft = (page >> level & 1) == 0;
                made = isLeft ? joined(made, beside) : joined(beside, made);
            }
            return made;
        }
    }

    /** One who takes pieces and doubts others. */
    private static final class House {
        private int coins;
        private int kept;
        private int lies;
    }

    /** A part of a task's steps, who has it, for what, and the bids for it by house. */
    private static final class Piece {
        private final Quarrel quarrel = new Quarrel();
        private final int[] bidPrices = new int[MOST_HOUSES];
        private final int[] bidHours = new int[MOST_HOUSES];
        private final int[] bidPledges = new int[MOST_HOUSES];
        private int state;
        private int house = NONE;
        private int price;
        private int pledge;
        private int till;
        private int first;
        private int last;
        private int number;
        private int claimTick;
        private int failures;

        private void giveTo(int house, int price, int pledge, int till) {
            state = GIVEN;
            this.house = house;
            this.price = price;
            this.pledge = pledge;
            this.till = till;
        }

        private void reopen() {
            state = OPEN;
            house = NONE;
            number = 0;
            failures++;
        }

        private int heldCoins() {
            switch (state) {
                case GIVEN:
                case CLAIMED:
                    return price + pledge;
                case QUARREL:
                    return price + 2 * pledge;
                case WAITING:
                    return price;
                default:
                    return 0;
            }
        }

        /** A bid has at least one hour, so 0 hours tell that there is none. */
        private boolean hasBid(int house) {
            return isWithin(house, 0, MOST_HOUSES - 1) && bidHours[house] > 0;
        }

        private void setBid(int house, int price, int hours, int pledge) {
            if (isWithin(house, 0, MOST_HOUSES - 1)) {
                bidPrices[house] = price;
                bidHours[house] = hours;
                bidPledges[house] = pledge;
            }
        }

        private int dropBids() {
            int dropped = 0;
            for (int h = 0; h < MOST_HOUSES; h++) {
                if (bidHours[h] > 0) {
                    dropped++;
                    bidHours[h] = 0;
                }
            }
            return dropped;
        }

        private long bidCost(int house, House bidder) {
            if (!isWithin(house, 0, MOST_HOUSES - 1)) {
                return NONE;
            }
            long risk = (last - first) * 100L * (bidder.lies + 1L);
            long trust = Math.max(2L, bidder.kept + bidder.lies + 2L);
            return 100L * bidPrices[house] + risk / trust;
        }
    }

    /** Two who told different ends of a piece, and between which steps they part. */
    private static final class Quarrel {
        private int doubter = NONE;
        private int start;
        private int startNumber;
        private int end;
        private int claimerEnd;
        private int doubterEnd;
        private int askedTick;
        private boolean claimerTold;
        private boolean doubterTold;
        private int claimerMiddle;
        private int doubterMiddle;

        private void begin(int doubter, int now) {
            this.doubter = doubter;
            ask(now);
        }

        private void setStart(int step, int number) {
            start = step;
            startNumber = number;
        }

        private void setEnd(int step, int claimerNumber, int doubterNumber) {
            end = step;
            claimerEnd = claimerNumber;
            doubterEnd = doubterNumber;
        }

        private void ask(int now) {
            askedTick = now;
            claimerTold = false;
            doubterTold = false;
        }

        private int middle() {
            return (start + end) / 2;
        }

        private boolean isNarrow() {
            return end - start <= 1;
        }

        private boolean hasTold(boolean claimer) {
            return claimer ? claimerTold : doubterTold;
        }

        private void tell(boolean claimer, int number, int now) {
            if (claimer) {
                claimerTold = true;
                claimerMiddle = number;
            } else {
                doubterTold = true;
                doubterMiddle = number;
            }
            if (claimerTold && doubterTold) {
                halve();
                ask(now);
            }
        }

        private void halve() {
            if (claimerMiddle == doubterMiddle) {
                setStart(middle(), claimerMiddle);
            } else {
                setEnd(middle(), claimerMiddle, doubterMiddle);
            }
        }
    }

    /** Holds the tick, the rules and the coins, and ends what is doubted, silent or due. */
    private static final class Court {
        private final Machine machine = new Machine();
        private final House[] houses = new House[MOST_HOUSES];
        private final int[] rules = new int[SHARE + 1];
        private int now;
        private int chest;

        private Court() {
            for (int i = 0; i < MOST_HOUSES; i++) {
                houses[i] = new House();
            }
            rules[WINDOW] = 10;
            rules[TURN] = 5;
            rules[SHARE] = 50;
        }

        private void pay(int house, int coins) {
            if (isWithin(house, 0, MOST_HOUSES - 1)) {
                houses[house].coins += coins;
            }
        }

        private void countLie(int house) {
            if (isWithin(house, 0, MOST_HOUSES - 1)) {
                houses[house].lies++;
            }
        }

        private void beginQuarrel(Task task, int j, int doubter, int number) {
            if (!task.hasPiece(j)) {
                return;
            }
            Piece piece = task.pieces[j];
            int ahead = j > 0 ? task.pieces[j - 1].number : machine.sumOf(task, 0);
            piece.state = QUARREL;
            piece.quarrel.begin(doubter, now);
            piece.quarrel.setStart(piece.first, ahead);
            piece.quarrel.setEnd(piece.last, piece.number, number);
        }

        private boolean judgeIfNarrow(Task task, int j) {
            if (!task.hasPiece(j) || !task.pieces[j].quarrel.isNarrow()) {
                return false;
            }
            Quarrel quarrel = task.pieces[j].quarrel;
            boolean startHolds = machine.sumOf(task, quarrel.start) == quarrel.startNumber;
            int end = machine.sumOf(task, quarrel.end);
            settle(task, j, startHolds && quarrel.claimerEnd == end, startHolds && quarrel.doubterEnd == end);
            return true;
        }

        /** Their ends differ and one of both is silent at least, so they are never both right. */
        private void settle(Task task, int j, boolean claimerRight, boolean doubterRight) {
            if (!task.hasPiece(j)) {
                return;
            }
            Piece piece = task.pieces[j];
            int doubter = piece.quarrel.doubter;
            if (!claimerRight) {
                countLie(piece.house);
            }
            if (!doubterRight) {
                countLie(doubter);
            }
            if (claimerRight) {
                reward(piece.house, piece.pledge);
                stay(task, j);
                return;
            }
            if (doubterRight) {
                reward(doubter, piece.pledge);
            } else {
                chest += 2 * piece.pledge;
            }
            makeVoid(task, j);
        }

        private void reward(int house, int pledge) {
            int share = (int) ((long) pledge * rules[SHARE] / 100);
            pay(house, pledge + share);
            chest += pledge - share;
        }

        private void stay(Task task, int j) {
            if (!task.hasPiece(j)) {
                return;
            }
            task.pieces[j].state = WAITING;
            if (j > 0 && task.pieces[j - 1].state != KEPT) {
                return;
            }
            for (int k = j; k < MOST_PIECES && task.hasPiece(k) && task.pieces[k].state == WAITING; k++) {
                keep(task.pieces[k]);
            }
        }

        private void keep(Piece piece) {
            piece.state = KEPT;
            pay(piece.house, piece.price);
            if (isWithin(piece.house, 0, MOST_HOUSES - 1)) {
                houses[piece.house].kept++;
            }
        }

        /** The pledges of the piece itself are settled already; those behind it go back. */
        private void makeVoid(Task task, int j) {
            if (!task.hasPiece(j)) {
                return;
            }
            reopen(task, task.pieces[j]);
            for (int k = j + 1; k < MOST_PIECES && task.hasPiece(k) && hangsOnAhead(task.pieces[k]); k++) {
                returnPledges(task.pieces[k]);
                reopen(task, task.pieces[k]);
            }
        }

        private void reopen(Task task, Piece piece) {
            task.coins += piece.price;
            piece.reopen();
        }

        private static boolean hangsOnAhead(Piece piece) {
            return piece.state == CLAIMED || piece.state == QUARREL || piece.state == WAITING;
        }

        private void returnPledges(Piece piece) {
            if (piece.state == CLAIMED || piece.state == QUARREL) {
                pay(piece.house, piece.pledge);
            }
            if (piece.state == QUARREL) {
                pay(piece.quarrel.doubter, piece.pledge);
            }
        }

        /** The first tick at which a piece lapses if nobody does anything. */
        private int dueTick(Piece piece) {
            switch (piece.state) {
                case GIVEN:
                    return piece.till + 1;
                case CLAIMED:
                    return piece.claimTick + rules[WINDOW];
                case QUARREL:
                    return piece.quarrel.askedTick + rules[TURN];
                default:
                    return NEVER;
            }
        }

        private void lapse(Task task, int j) {
            if (!task.hasPiece(j)) {
                return;
            }
            Piece piece = task.pieces[j];
            switch (piece.state) {
                case GIVEN:
                    chest += piece.pledge;
                    countLie(piece.house);
                    reopen(task, piece);
                    break;
                case CLAIMED:
                    pay(piece.house, piece.pledge);
                    stay(task, j);
                    break;
                case QUARREL:
                    settle(task, j, piece.quarrel.claimerTold, piece.quarrel.doubterTold);
                    break;
                default:
                    break;
            }
        }
    }

    /** Tries every way to give pieces to their bids, in the order of the houses' numbers. */
    private static final class Chooser {
        private final int[] pieces = new int[MOST_CHOSEN];
        private final int[] way = new int[MOST_CHOSEN];
        private final int[] bestWay = new int[MOST_CHOSEN];
        private final int[] hours = new int[MOST_HOUSES];
        private final int[] pledges = new int[MOST_HOUSES];
        private int size;
        private int mostHours;
        private boolean found;
        private long bestCost;

        private boolean findBest(Task task, int bits, int mostHours, House[] houses) {
            size = 0;
            for (int j = 0; j < MOST_PIECES && size < MOST_CHOSEN; j++) {
                if ((bits >> j & 1) == 1 && task.hasPiece(j)) {
                    pieces[size] = j;
                    size++;
                }
            }
            this.mostHours = mostHours;
            found = false;
            choose(task, houses, 0, 0L);
            return found;
        }

        private void choose(Task task, House[] houses, int depth, long cost) {
            if (depth >= size || depth >= MOST_CHOSEN) {
                found = true;
                bestCost = cost;
                for (int i = 0; i < MOST_CHOSEN; i++) {
                    bestWay[i] = way[i];
                }
                return;
            }
            for (int h = 0; h < MOST_HOUSES && h < houses.length; h++) {
                tryHouse(task, houses, depth, cost, h);
            }
        }

        private void tryHouse(Task task, House[] houses, int depth, long cost, int h) {
            if (!isWithin(depth, 0, MOST_CHOSEN - 1) || !isWithin(h, 0, MOST_HOUSES - 1) || h >= houses.length || !task.hasPiece(pieces[depth])) {
                return;
            }
            Piece piece = task.pieces[pieces[depth]];
            if (!piece.hasBid(h) || hours[h] + piece.bidHours[h] > mostHours || pledges[h] + piece.bidPledges[h] > houses[h].coins) {
                return;
            }
            long next = cost + piece.bidCost(h, houses[h]);
            // A way that costs as much as the best one comes later in the order.
            if (found && next >= bestCost) {
                return;
            }
            way[depth] = h;
            hours[h] += piece.bidHours[h];
            pledges[h] += piece.bidPledges[h];
            choose(task, houses, depth + 1, next);
            hours[h] -= piece.bidHours[h];
            pledges[h] -= piece.bidPledges[h];
        }

        private int houseFor(int piece) {
            for (int i = 0; i < size && i < MOST_CHOSEN; i++) {
                if (pieces[i] == piece) {
                    return bestWay[i];
                }
            }
            return NONE;
        }
    }
}
