import java.util.NoSuchElementException;

/** A desk where a PROGRAM is cut in half, between a small machine's code and circuits. */
public final class HalfGates {
    public static final int NONE = -1;

    private static final int NUMBERS = 8;
    private static final int ALL_NUMBERS = 255;
    private static final int MOST_BLOCKS = 12;
    private static final int MOST_LINES = 8;
    private static final int MOST_OPS = 120;
    private static final int MOST_OPEN = 8;
    private static final int MOST_TIMES = 50;
    private static final int MOST_WHOLE = 65535;
    private static final int MOST_LETTERS = 8;
    private static final int MOST_DIGITS = 5;
    private static final int MOST_GATES_ASKED = 1000000;
    private static final int MOST_TICKS_ASKED = 2147483647;
    private static final int TAPE_BYTES = 600;
    private static final int FEED_BYTES = 20;
    private static final int CUTS = 1 << MOST_BLOCKS;
    private static final int CODE = 0;
    private static final int CIRCUIT = 1;
    private static final int CAN_NOT = -2;
    private static final int NO_TURN = -2147483648;

    // TROUBLE
    private static final int FINE = 0;
    private static final int NONE_SUCH = 1;
    private static final int BAD_NUMBER = 2;
    private static final int FAULTY = 3;
    private static final int NO_PROGRAM = 4;

    // FAULTS
    private static final int FORM = 1;
    private static final int NO_NAME = 2;
    private static final int TWICE = 3;
    private static final int BEYOND = 4;
    private static final int MANY = 5;

    // Kinds of TOKENS and of steps of a SUM; single signs are told by their own byte, from 33 on.
    private static final int END = 0;
    private static final int NO_TOKEN = 1;
    private static final int WORD = 2;
    private static final int WHOLE = 3;
    private static final int NUMBER = 4;
    private static final int IF = '?';

    // What the next TOKEN of a PROGRAM is met as.
    private static final int BLOCK_NAME = 0;
    private static final int BLOCK_TIMES = 1;
    private static final int BLOCK_OPENS = 2;
    private static final int LINE_BEGINS = 3;
    private static final int IF_NAME = 4;
    private static final int LINE_NAME = 5;
    private static final int EQUALS = 6;
    private static final int PART = 7;
    private static final int BEHIND_PART = 8;

    private final Reader reader = new Reader();
    private final Machine machine = new Machine();
    private final Needs needs = new Needs();
    private final Cuts cuts = new Cuts();
    private final int[] shownEdges = new int[CUTS];
    private int shown = 0;
    private Program told = new Program();
    private int width = 8;
    private int per = 40;
    private int move = 3;
    private int latestTrouble = FINE;

    public HalfGates() {
    }

    public boolean set(int width, int per, int move) {
        boolean fits = width >= 4 && width <= 16 && per >= 1 && per <= 1000 && move >= 0 && move <= 100;
        if (refused(fits ? FINE : BAD_NUMBER)) {
            return false;
        }
        this.width = width;
        this.per = per;
        this.move = move;
        machine.narrow(mask());
        refresh();
        return true;
    }

    public int feed(int a, int b, int c, int d, int e) {
        Tape tape = reader.tape;
        if (tape.length + FEED_BYTES > TAPE_BYTES) {
            return NONE;
        }
        tape.append(a);
        tape.append(b);
        tape.append(c);
        tape.append(d);
        tape.append(e);
        return tape.length;
    }

    public int program(int n) {
        if (refused(n < 0 || n > reader.tape.length ? BAD_NUMBER : FINE)) {
            return NONE;
        }
        if (refused(reader.read(n) ? FINE : FAULTY)) {
            return NONE;
        }
        told = reader.exchange(told);
        refresh();
        return told.blocks;
    }

    public int fault() {
        return reader.fault;
    }

    public int where() {
        return latestTrouble == FAULTY ? reader.place : NONE;
    }

    public boolean put(int k, int value) {
        if (refused(isNumber(k) ? FINE : NONE_SUCH)) {
            return false;
        }
        machine.numbers[k] = value & mask();
        return true;
    }

    public int get(int k) {
        return isNumber(k) ? machine.numbers[k] : NONE;
    }

    // ---- what a block needs

    public int block(int b, int what) {
        if (!isBlock(b)) {
            return NONE;
        }
        switch (what) {
            case 0: return told.times[b];
            case 1: return told.linesIn(b);
            case 2: return needs.ops[b];
            case 3: return needs.codeTicks[b];
            case 4: return needs.gates[b];
            case 5: return needs.depth[b];
            case 6: return needs.circuitTicks[b];
            case 7: return needs.reads[b];
            case 8: return needs.writes[b];
            default: return NONE;
        }
    }

    // ---- cuts

    public int ticks(int cut) {
        if (refused(troubleOfCut(cut))) {
            return NONE;
        }
        return ticksOf(cut);
    }

    public int gates(int cut) {
        if (refused(troubleOfCut(cut))) {
            return NONE;
        }
        cuts.follow(needs, told.blocks, cut);
        return cuts.gates;
    }

    public int moved(int cut) {
        if (refused(troubleOfCut(cut))) {
            return NONE;
        }
        cuts.follow(needs, told.blocks, cut);
        return cuts.moved;
    }

    public int room(int cut) {
        if (refused(troubleOfCut(cut))) {
            return NONE;
        }
        cuts.follow(needs, told.blocks, cut);
        return cuts.room;
    }

    public int moves(int cut, int b) {
        if (refused(troubleOfCut(cut))) {
            return NONE;
        }
        if (refused(b == told.blocks || isBlock(b) ? FINE : NONE_SUCH)) {
            return NONE;
        }
        cuts.follow(needs, told.blocks, cut);
        return cuts.moves[b];
    }

    public int quickest(int gates) {
        if (refused(troubleOfAsked(gates, MOST_GATES_ASKED))) {
            return NONE;
        }
        cuts.prepare(needs, told.blocks, move);
        return cuts.quickestWithin(gates);
    }

    public int fewest(int ticks) {
        if (refused(troubleOfAsked(ticks, MOST_TICKS_ASKED))) {
            return NONE;
        }
        cuts.prepare(needs, told.blocks, move);
        return cuts.fewestGatesWithin(ticks);
    }

    public int turn(int cut, int b) {
        if (refused(troubleOfCut(cut))) {
            return NO_TURN;
        }
        if (refused(troubleOfBlock(b))) {
            return NO_TURN;
        }
        return ticksOf(cut ^ (1 << b)) - ticksOf(cut);
    }

    public int edges() {
        if (refused(hasProgram() ? FINE : NO_PROGRAM)) {
            return NONE;
        }
        cuts.prepare(needs, told.blocks, move);
        // a copy: later calls reckon anew, but edge() goes on telling what edges() found
        System.arraycopy(cuts.edge, 0, shownEdges, 0, cuts.edgeCount);
        shown = cuts.edgeCount;
        return shown;
    }

    public int edge(int i) {
        return i >= 0 && i < shown ? shownEdges[i] : NONE;
    }

    // ---- runs

    public int run(int cut) {
        if (refused(troubleOfCut(cut))) {
            return NONE;
        }
        for (int b = 0; b < told.blocks; b++) {
            for (int time = 0; time < told.times[b]; time++) {
                machine.doBlock(told, b, machine.numbers, mask());
            }
        }
        return ticksOf(cut);
    }

    public boolean once(int b, boolean circuit) {
        if (refused(troubleOfBlock(b))) {
            return false;
        }
        // code and circuit make the same numbers, so one way of reckoning serves both
        machine.doBlock(told, b, machine.numbers, mask());
        return true;
    }

    public int changes(int b, int k) {
        if (refused(troubleOfBlock(b))) {
            return NONE;
        }
        if (refused(isNumber(k) ? FINE : NONE_SUCH)) {
            return NONE;
        }
        machine.tryBlock(told, b, mask());
        return machine.numbers[k] ^ machine.tried[k];
    }

    public int still(int b) {
        if (refused(troubleOfBlock(b))) {
            return NONE;
        }
        machine.tryBlock(told, b, mask());
        return machine.triedIsSame() ? 1 : 0;
    }

    public int name(int b, int i) throws NoSuchElementException {
        if (!isBlock(b) || i < 0 || i >= told.lengths[b]) {
            throw new NoSuchElementException();
        }
        return told.letters[b * MOST_LETTERS + i];
    }

    public int count(int what) {
        switch (what) {
            case 0: return width;
            case 1: return per;
            case 2: return move;
            case 3: return told.blocks;
            case 4: return reader.tape.length;
            case 5: return told.ops;
            default: return NONE;
        }
    }

    public int trouble() {
        return latestTrouble;
    }

    private boolean refused(int why) {
        latestTrouble = why;
        return why != FINE;
    }

    private boolean hasProgram() {
        return told.blocks > 0;
    }

    private boolean isBlock(int b) {
        return b >= 0 && b < told.blocks;
    }

    private boolean isNumber(int k) {
        return k >= 0 && k < NUMBERS;
    }

    private int troubleOfCut(int cut) {
        if (!hasProgram()) {
            return NO_PROGRAM;
        }
        return cut >= 0 && cut < 1 << told.blocks ? FINE : BAD_NUMBER;
    }

    private int troubleOfBlock(int b) {
        if (!hasProgram()) {
            return NO_PROGRAM;
        }
        return isBlock(b) ? FINE : NONE_SUCH;
    }

    private int troubleOfAsked(int asked, int most) {
        if (!hasProgram()) {
            return NO_PROGRAM;
        }
        return asked >= 0 && asked <= most ? FINE : BAD_NUMBER;
    }

    private int mask() {
        return (1 << width) - 1;
    }

    private int ticksOf(int cut) {
        cuts.follow(needs, told.blocks, cut);
        return cuts.blockTicks + move * cuts.moved;
    }

    private void refresh() {
        needs.reckon(told, width, per);
        cuts.ready = false;
    }

    /** THE TAPE, and the TOKEN that stands at its reading place. */
    private static final class Tape {
        private final int[] bytes = new int[TAPE_BYTES];
        int length = 0;
        private int end = 0;
        private int next = 0;
        int kind = END;
        int start = 0;
        int size = 0;
        int value = 0;
        /** Which NUMBER a WORD names, or NONE. */
        int named = NONE;
        boolean isIf = false;

        void append(int number) {
            for (int shift = 24; shift >= 0 && length < TAPE_BYTES; shift -= 8) {
                bytes[length] = (number >>> shift) & 255;
                length++;
            }
        }

        void clear() {
            length = 0;
        }

        void open(int n) {
            end = Math.max(0, Math.min(n, length));
            next = 0;
            step();
        }

        void step() {
            skipBlanks();
            start = next;
            value = 0;
            named = NONE;
            isIf = false;
            if (next >= end) {
                kind = END;
            } else if (isLetter(bytes[next])) {
                takeWord();
            } else if (isDigit(bytes[next])) {
                takeWhole();
            } else {
                kind = isSingle(bytes[next]) ? bytes[next] : NO_TOKEN;
                next++;
            }
            size = next - start;
        }

        private void skipBlanks() {
            while (next < end && (bytes[next] == ' ' || bytes[next] == 10)) {
                next++;
            }
        }

        // Letters or digits that stand together are one run: one that is too long is no TOKEN at all.
        private void takeWord() {
            while (next < end && isLetter(bytes[next])) {
                next++;
            }
            int letters = next - start;
            kind = letters <= MOST_LETTERS ? WORD : NO_TOKEN;
            if (letters == 1 && bytes[start] < 'a' + NUMBERS) {
                named = bytes[start] - 'a';
            }
            isIf = letters == 2 && bytes[start] == 'i' && bytes[start + 1] == 'f';
        }

        private void takeWhole() {
            while (next < end && isDigit(bytes[next])) {
                value = value * 10 + bytes[next] - '0';
                next++;
            }
            kind = next - start <= MOST_DIGITS ? WHOLE : NO_TOKEN;
        }

        int letter(int i) {
            return i >= 0 && i < size ? bytes[start + i] : NONE;
        }

        boolean isSign() {
            return isSignByte(kind);
        }

        private static boolean isLetter(int c) {
            return c >= 'a' && c <= 'z';
        }

        private static boolean isDigit(int c) {
            return c >= '0' && c <= '9';
        }

        private static boolean isSingle(int c) {
            switch (c) {
                case '{':
                case '}':
                case ';':
                case '=':
                case '(':
                case ')':
                case '~': return true;
                default: return isSignByte(c);
            }
        }

        private static boolean isSignByte(int c) {
            switch (c) {
                case '+':
                case '-':
                case '*':
                case '&':
                case '|':
                case '^':
                case '<': return true;
                default: return false;
            }
        }
    }

    /** A PROGRAM; its SUMS are kept with each OP behind what it is done on, so that no tree is needed. */
    private static final class Program {
        int blocks = 0;
        int lines = 0;
        int steps = 0;
        int ops = 0;
        final int[] letters = new int[MOST_BLOCKS * MOST_LETTERS];
        final int[] lengths = new int[MOST_BLOCKS];
        final int[] times = new int[MOST_BLOCKS];
        final int[] firstLine = new int[MOST_BLOCKS + 1];
        final int[] target = new int[MOST_BLOCKS * MOST_LINES];
        final int[] guard = new int[MOST_BLOCKS * MOST_LINES];
        final int[] firstStep = new int[MOST_BLOCKS * MOST_LINES + 1];
        final int[] stepKind = new int[TAPE_BYTES];
        final int[] stepValue = new int[TAPE_BYTES];

        void forget() {
            blocks = 0;
            lines = 0;
            steps = 0;
            ops = 0;
        }

        int linesIn(int b) {
            return firstLine[b + 1] - firstLine[b];
        }

        boolean hasBlockNamed(Tape word) {
            for (int b = 0; b < blocks; b++) {
                if (isNamed(b, word)) {
                    return true;
                }
            }
            return false;
        }

        private boolean isNamed(int b, Tape word) {
            if (lengths[b] != word.size) {
                return false;
            }
            for (int i = 0; i < lengths[b]; i++) {
                if (letters[b * MOST_LETTERS + i] != word.letter(i)) {
                    return false;
                }
            }
            return true;
        }

        void addBlock(Tape word) {
            if (blocks >= MOST_BLOCKS) {
                return;
            }
            lengths[blocks] = Math.min(word.size, MOST_LETTERS);
            for (int i = 0; i < lengths[blocks]; i++) {
                letters[blocks * MOST_LETTERS + i] = word.letter(i);
            }
            firstLine[blocks] = lines;
            blocks++;
            firstLine[blocks] = lines;
        }

        void repeatLatestBlock(int often) {
            if (blocks > 0) {
                times[blocks - 1] = often;
            }
        }

        boolean latestBlockIsFull() {
            return blocks > 0 && linesIn(blocks - 1) >= MOST_LINES;
        }

        void addLine(int guardedBy, int written) {
            if (lines >= target.length) {
                return;
            }
            guard[lines] = guardedBy;
            target[lines] = written;
            lines++;
            firstStep[lines] = steps;
            firstLine[blocks] = lines;
        }

        void addStep(int kind, int value) {
            if (steps >= stepKind.length) {
                return;
            }
            stepKind[steps] = kind;
            stepValue[steps] = value;
            steps++;
        }
    }

    /**
     * Reads a PROGRAM from THE TAPE into a spare one, so that a FAULT leaves the former one whole.
     * It goes TOKEN by TOKEN, knowing what may come next: no text, however nested, makes calls go deeper.
     */
    private static final class Reader {
        final Tape tape = new Tape();
        private Program spare = new Program();
        int fault = 0;
        int place = 0;
        private int state = BLOCK_NAME;
        private int guard = NONE;
        private int target = 0;
        private int open = 0;
        // of each ( that is open: the SIGN that its SUM keeps to (0: none yet), and the ~ ahead of its next PART
        private final int[] sign = new int[MOST_OPEN + 1];
        private final int[] turned = new int[MOST_OPEN + 1];

        boolean read(int n) {
            fault = 0;
            state = BLOCK_NAME;
            spare.forget();
            tape.open(n);
            for (int i = 0; i < TAPE_BYTES && fault == 0 && tape.kind != END; i++) {
                fault = meet();
                if (fault == 0) {
                    tape.step();
                }
            }
            if (fault == 0 && (state != BLOCK_NAME || spare.blocks == 0)) {
                fault = FORM;
            }
            place = tape.start;
            tape.clear();
            return fault == 0;
        }

        Program exchange(Program former) {
            Program latest = spare;
            spare = former;
            return latest;
        }

        private int meet() {
            switch (state) {
                case BLOCK_NAME: return meetBlockName();
                case BLOCK_TIMES: return meetTimes();
                case BLOCK_OPENS: return meetSingle('{', LINE_BEGINS);
                case LINE_BEGINS: return meetLine();
                case IF_NAME: return meetIfName();
                case LINE_NAME: return meetLineName();
                case EQUALS: return meetEquals();
                case PART: return meetPart();
                default: return meetBehindPart();
            }
        }

        private int meetBlockName() {
            if (tape.kind != WORD) {
                return FORM;
            }
            if (spare.hasBlockNamed(tape)) {
                return TWICE;
            }
            if (spare.blocks >= MOST_BLOCKS) {
                return MANY;
            }
            spare.addBlock(tape);
            state = BLOCK_TIMES;
            return 0;
        }

        private int meetTimes() {
            if (tape.kind != WHOLE) {
                return FORM;
            }
            if (tape.value < 1 || tape.value > MOST_TIMES) {
                return BEYOND;
            }
            spare.repeatLatestBlock(tape.value);
            state = BLOCK_OPENS;
            return 0;
        }

        private int meetSingle(int single, int then) {
            if (tape.kind != single) {
                return FORM;
            }
            state = then;
            return 0;
        }

        private int meetLine() {
            int why = tape.isIf ? 0 : faultOfName();
            if (why != 0) {
                return why;
            }
            if (spare.latestBlockIsFull()) {
                return MANY;
            }
            guard = NONE;
            if (tape.isIf) {
                return meetOp(IF_NAME);
            }
            return meetLineName();
        }

        private int meetIfName() {
            guard = tape.named;
            state = LINE_NAME;
            return faultOfName();
        }

        private int meetLineName() {
            target = tape.named;
            state = EQUALS;
            return faultOfName();
        }

        private int faultOfName() {
            if (tape.kind != WORD) {
                return FORM;
            }
            return tape.named == NONE ? NO_NAME : 0;
        }

        private int meetOp(int then) {
            if (spare.ops >= MOST_OPS) {
                return MANY;
            }
            spare.ops++;
            state = then;
            return 0;
        }

        private int meetEquals() {
            open = 0;
            beginSum();
            return meetSingle('=', PART);
        }

        private void beginSum() {
            sign[open] = 0;
            turned[open] = 0;
        }

        private int meetPart() {
            switch (tape.kind) {
                case '~': return meetTurn();
                case '(': return meetOpening();
                case WHOLE: return meetWhole();
                default: return meetAskedName();
            }
        }

        private int meetTurn() {
            turned[open]++;
            return meetOp(PART);
        }

        private int meetOpening() {
            if (open >= MOST_OPEN) {
                return MANY;
            }
            open++;
            beginSum();
            return 0;
        }

        private int meetWhole() {
            if (tape.value > MOST_WHOLE) {
                return BEYOND;
            }
            spare.addStep(WHOLE, tape.value);
            endPart();
            return 0;
        }

        private int meetAskedName() {
            int why = faultOfName();
            if (why == 0) {
                spare.addStep(NUMBER, tape.named);
                endPart();
            }
            return why;
        }

        // What stands ahead of a PART is done to it once the PART is whole: first each ~, then the SIGN.
        private void endPart() {
            for (int i = 0; i < turned[open]; i++) {
                spare.addStep('~', 0);
            }
            turned[open] = 0;
            if (sign[open] != 0) {
                spare.addStep(sign[open], 0);
            }
            state = BEHIND_PART;
        }

        private int meetBehindPart() {
            if (tape.isSign()) {
                return meetSign();
            }
            if (open > 0) {
                return meetClosing();
            }
            if (tape.kind != ';' && tape.kind != '}') {
                return FORM;
            }
            spare.addLine(guard, target);
            state = tape.kind == ';' ? LINE_BEGINS : BLOCK_NAME;
            return 0;
        }

        private int meetSign() {
            if (sign[open] != 0 && sign[open] != tape.kind) {
                return FORM;
            }
            sign[open] = tape.kind;
            return meetOp(PART);
        }

        private int meetClosing() {
            if (tape.kind != ')') {
                return FORM;
            }
            open--;
            endPart();
            return 0;
        }
    }

    /** What waits to be joined while a SUM is gone through. */
    private static final class Pile {
        // each ( that is open leaves one waiting, and the SUM itself two at most
        private final int[] held = new int[MOST_OPEN + 4];
        private int size = 0;

        void empty() {
            size = 0;
        }

        void push(int value) {
            if (size < held.length) {
                held[size] = value;
                size++;
            }
        }

        int pop() {
            if (size <= 0) {
                return 0;
            }
            size--;
            return held[size];
        }
    }

    /** The NUMBERS, and the doing of BLOCKS on them. */
    private static final class Machine {
        final int[] numbers = new int[NUMBERS];
        final int[] tried = new int[NUMBERS];
        private final Pile pile = new Pile();

        void narrow(int mask) {
            for (int k = 0; k < NUMBERS; k++) {
                numbers[k] &= mask;
            }
        }

        void tryBlock(Program program, int b, int mask) {
            System.arraycopy(numbers, 0, tried, 0, NUMBERS);
            doBlock(program, b, tried, mask);
        }

        boolean triedIsSame() {
            for (int k = 0; k < NUMBERS; k++) {
                if (tried[k] != numbers[k]) {
                    return false;
                }
            }
            return true;
        }

        void doBlock(Program program, int b, int[] on, int mask) {
            for (int line = program.firstLine[b]; line < program.firstLine[b + 1]; line++) {
                int guard = program.guard[line];
                if (guard == NONE || on[guard] != 0) {
                    on[program.target[line]] = worth(program, line, on, mask);
                }
            }
        }

        private int worth(Program program, int line, int[] on, int mask) {
            pile.empty();
            for (int i = program.firstStep[line]; i < program.firstStep[line + 1]; i++) {
                int kind = program.stepKind[i];
                int value = program.stepValue[i];
                if (kind == NUMBER) {
                    pile.push(on[value]);
                } else if (kind == WHOLE) {
                    pile.push(value & mask);
                } else if (kind == '~') {
                    pile.push(~pile.pop() & mask);
                } else {
                    int right = pile.pop();
                    pile.push(joined(kind, pile.pop(), right) & mask);
                }
            }
            return pile.pop();
        }

        private static int joined(int sign, int left, int right) {
            switch (sign) {
                case '+': return left + right;
                case '-': return left - right;
                case '*': return left * right;
                case '&': return left & right;
                case '|': return left | right;
                case '^': return left ^ right;
                default: return left < right ? 1 : 0;
            }
        }
    }

    /** What each BLOCK needs, by WIDTH and PER. */
    private static final class Needs {
        final int[] ops = new int[MOST_BLOCKS];
        final int[] codeTicks = new int[MOST_BLOCKS];
        final int[] gates = new int[MOST_BLOCKS];
        final int[] depth = new int[MOST_BLOCKS];
        final int[] circuitTicks = new int[MOST_BLOCKS];
        final int[] reads = new int[MOST_BLOCKS];
        final int[] writes = new int[MOST_BLOCKS];
        private final int[] depthOf = new int[NUMBERS];
        private final Pile pile = new Pile();
        private int width = 8;
        private int surelyWritten = 0;

        void reckon(Program program, int width, int per) {
            this.width = width;
            for (int b = 0; b < program.blocks; b++) {
                beginBlock(b);
                for (int line = program.firstLine[b]; line < program.firstLine[b + 1]; line++) {
                    reckonLine(program, b, line);
                }
                int often = program.times[b];
                codeTicks[b] *= often;
                int each = per > 0 ? (depth[b] + per - 1) / per : 1;
                circuitTicks[b] = 1 + often * Math.max(1, each);
            }
        }

        private void beginBlock(int b) {
            ops[b] = 0;
            codeTicks[b] = 0;
            gates[b] = 0;
            depth[b] = 0;
            reads[b] = 0;
            writes[b] = 0;
            surelyWritten = 0;
            for (int k = 0; k < NUMBERS; k++) {
                depthOf[k] = 0;
            }
        }

        private void reckonLine(Program program, int b, int line) {
            int guard = program.guard[line];
            int target = program.target[line];
            codeTicks[b]++;
            int deep = sumDepth(program, b, line);
            if (guard == NONE) {
                surelyWritten |= 1 << target;
            } else {
                ask(b, guard);
                ask(b, target);
                takeOp(b, IF);
                deep = Math.max(deep, Math.max(depthOf[guard], depthOf[target])) + depthOfOp(IF);
            }
            depthOf[target] = deep;
            depth[b] = Math.max(depth[b], deep);
            writes[b] |= 1 << target;
        }

        private int sumDepth(Program program, int b, int line) {
            pile.empty();
            for (int i = program.firstStep[line]; i < program.firstStep[line + 1]; i++) {
                int kind = program.stepKind[i];
                if (kind == NUMBER) {
                    ask(b, program.stepValue[i]);
                    pile.push(depthOf[program.stepValue[i]]);
                } else if (kind == WHOLE) {
                    pile.push(0);
                } else {
                    takeOp(b, kind);
                    int deep = kind == '~' ? pile.pop() : Math.max(pile.pop(), pile.pop());
                    pile.push(deep + depthOfOp(kind));
                }
            }
            return pile.pop();
        }

        private void ask(int b, int k) {
            reads[b] |= (1 << k) & ~surelyWritten;
        }

        private void takeOp(int b, int op) {
            ops[b]++;
            codeTicks[b] += op == '*' ? width : 1;
            gates[b] += gatesOfOp(op);
        }

        private int gatesOfOp(int op) {
            switch (op) {
                case '+': return 5 * width;
                case '-':
                case '<': return 6 * width;
                case '*': return 6 * width * width;
                case IF: return 4 * width;
                default: return width;
            }
        }

        private int depthOfOp(int op) {
            switch (op) {
                case '+': return 2 * width;
                case '-': return 2 * width + 1;
                case '*': return 4 * width;
                case '<': return 2 * width + 2;
                case IF: return 5;
                default: return 1;
            }
        }
    }

    /**
     * One CUT followed through its BLOCKS, and all CUTS beside one another.
     * What is FRESH is one number: the lowest eight bits are the code's side, the next eight the circuits'.
     */
    private static final class Cuts {
        private static final int SIDE_BITS = 8;
        private static final int BOTH_SIDES = 1 | 1 << SIDE_BITS;

        final int[] moves = new int[MOST_BLOCKS + 1];
        int blockTicks = 0;
        int gates = 0;
        int moved = 0;
        int room = 0;

        /** Whether the rows of all CUTS and the edges hold for the PROGRAM and settings of now. */
        boolean ready = false;
        final int[] edge = new int[CUTS];
        int edgeCount = 0;
        private final int[] freshOf = new int[CUTS];
        private final int[] ticksOf = new int[CUTS];
        private final int[] gatesOf = new int[CUTS];

        void follow(Needs needs, int blocks, int cut) {
            blockTicks = 0;
            gates = 0;
            moved = 0;
            room = 0;
            int fresh = ALL_NUMBERS * BOTH_SIDES;
            for (int b = 0; b < blocks; b++) {
                int side = (cut >> b) & 1;
                note(b, lacking(fresh, needs.reads[b], side));
                fresh = freshBehind(fresh, needs, b, side);
                blockTicks += ticksOn(needs, b, side);
                gates += gatesOn(needs, b, side);
            }
            note(blocks, lacking(fresh, ALL_NUMBERS, CODE));
        }

        private void note(int at, int lacking) {
            moves[at] = lacking;
            moved += Integer.bitCount(lacking);
            room = Math.max(room, Integer.bitCount(lacking));
        }

        private static int lacking(int fresh, int wanted, int side) {
            return wanted & ~(fresh >> (side * SIDE_BITS)) & ALL_NUMBERS;
        }

        private static int freshBehind(int fresh, Needs needs, int b, int side) {
            int read = fresh | lacking(fresh, needs.reads[b], side) * BOTH_SIDES;
            return read & ~(needs.writes[b] * BOTH_SIDES) | needs.writes[b] << (side * SIDE_BITS);
        }

        private static int ticksOn(Needs needs, int b, int side) {
            return side == CIRCUIT ? needs.circuitTicks[b] : needs.codeTicks[b];
        }

        private static int gatesOn(Needs needs, int b, int side) {
            return side == CIRCUIT ? needs.gates[b] : 0;
        }

        void prepare(Needs needs, int blocks, int move) {
            if (ready) {
                return;
            }
            reckonAll(needs, blocks, move);
            edgeCount = 0;
            for (int cut = 0; cut < 1 << blocks; cut++) {
                offer(cut);
            }
            ready = true;
        }

        // The CUTS of the first blocks double with each further one: no CUT is followed from its start.
        private void reckonAll(Needs needs, int blocks, int move) {
            freshOf[0] = ALL_NUMBERS * BOTH_SIDES;
            ticksOf[0] = 0;
            gatesOf[0] = 0;
            for (int b = 0; b < blocks; b++) {
                for (int cut = 0; cut < 1 << b; cut++) {
                    extend(needs, b, cut, CIRCUIT, move);
                    extend(needs, b, cut, CODE, move);
                }
            }
            for (int cut = 0; cut < 1 << blocks; cut++) {
                ticksOf[cut] += move * Integer.bitCount(lacking(freshOf[cut], ALL_NUMBERS, CODE));
            }
        }

        private void extend(Needs needs, int b, int cut, int side, int move) {
            int longer = cut | side << b;
            int fresh = freshOf[cut];
            int lacking = lacking(fresh, needs.reads[b], side);
            ticksOf[longer] = ticksOf[cut] + ticksOn(needs, b, side) + move * Integer.bitCount(lacking);
            gatesOf[longer] = gatesOf[cut] + gatesOn(needs, b, side);
            freshOf[longer] = freshBehind(fresh, needs, b, side);
        }

        // CUTS come by rising bits, so of those with both alike the one with the least bits stands first.
        private void offer(int cut) {
            int at = edgesWithin(gatesOf[cut]);
            if (at > 0 && ticksOf[edge[at - 1]] <= ticksOf[cut]) {
                return;
            }
            if (at > 0 && gatesOf[edge[at - 1]] == gatesOf[cut]) {
                at--;
            }
            int kept = at;
            while (kept < edgeCount && ticksOf[edge[kept]] >= ticksOf[cut]) {
                kept++;
            }
            int behind = edgeCount - kept;
            if (at + 1 + behind > edge.length) {
                return;
            }
            System.arraycopy(edge, kept, edge, at + 1, behind);
            edge[at] = cut;
            edgeCount = at + 1 + behind;
        }

        private int edgesWithin(int most) {
            int low = 0;
            int high = edgeCount;
            while (low < high) {
                int middle = (low + high) / 2;
                if (gatesOf[edge[middle]] <= most) {
                    low = middle + 1;
                } else {
                    high = middle;
                }
            }
            return low;
        }

        // Along the edges GATES rise and TICKS fall, so the last edge within is the quickest of all CUTS.
        int quickestWithin(int most) {
            int within = edgesWithin(most);
            return within > 0 ? edge[within - 1] : NONE;
        }

        int fewestGatesWithin(int ticks) {
            for (int i = 0; i < edgeCount; i++) {
                if (ticksOf[edge[i]] <= ticks) {
                    return gatesOf[edge[i]];
                }
            }
            return CAN_NOT;
        }
    }
}
