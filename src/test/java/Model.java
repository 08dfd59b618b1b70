import java.util.ArrayList;
import java.util.Collections;
import java.util.List;
import java.util.Set;
import java.util.TreeSet;

/**
 * The document once more, told as plainly as can be and with no thought of speed: trees, sets, and
 * every CUT beside every other. It shares nothing with HalfGates, so that the two can be held together.
 */
final class Model {
    private static final class Fault extends RuntimeException {
        private static final long serialVersionUID = 1;
        final int number;
        final int place;

        Fault(int number, int place) {
            super(null, null, false, false);
            this.number = number;
            this.place = place;
        }
    }

    /** A part of a SUM: a NUMBER (name >= 0), a WHOLE (sign 0), a ~ (one part), or a SIGN (two). */
    private static final class Node {
        final char sign;
        final int name;
        final int whole;
        final Node left;
        final Node right;

        Node(char sign, int name, int whole, Node left, Node right) {
            this.sign = sign;
            this.name = name;
            this.whole = whole;
            this.left = left;
            this.right = right;
        }
    }

    private static final class Line {
        int guard = -1;
        int target;
        Node sum;
    }

    private static final class Block {
        String name;
        int times;
        final List<Line> lines = new ArrayList<>();
    }

    private static final class Cut {
        int bits;
        int ticks;
        int gates;
        int moved;
        int room;
        final List<Set<Integer>> moves = new ArrayList<>();
    }

    private int width = 8;
    private int per = 40;
    private int move = 3;
    private int[] numbers = new int[8];
    private final StringBuilder tape = new StringBuilder();
    private List<Block> blocks = new ArrayList<>();
    private int fault = 0;
    private int place = -1;
    private int trouble = 0;
    private List<Integer> edges = new ArrayList<>();

    // ---- reading, by recursion

    private String text;
    private int at;
    private int ops;

    private String peek() {
        while (at < text.length() && (text.charAt(at) == ' ' || text.charAt(at) == '\n')) {
            at++;
        }
        if (at == text.length()) {
            return "";
        }
        String rest = text.substring(at);
        String run = rest.replaceFirst("(?s)^([a-z]+|[0-9]+|.).*$", "$1");
        boolean good = run.matches("[a-z]{1,8}|[0-9]{1,5}|[{};=()+\\-*&|^~<]");
        if (!good) {
            throw new Fault(1, at);
        }
        return run;
    }

    private boolean atWord() {
        return peek().matches("[a-z]+");
    }

    private String take(String like) {
        String token = peek();
        if (!token.matches(like)) {
            throw new Fault(1, at);
        }
        at += token.length();
        return token;
    }

    private int takeName() {
        String word = take("[a-z]+");
        if (!word.matches("[a-h]")) {
            throw new Fault(2, at - word.length());
        }
        return word.charAt(0) - 'a';
    }

    private void countOp(int here) {
        ops++;
        if (ops > 120) {
            throw new Fault(5, here);
        }
    }

    private int takeWhole(int least, int most) {
        String digits = take("[0-9]+");
        int value = Integer.parseInt(digits);
        if (value < least || value > most) {
            throw new Fault(4, at - digits.length());
        }
        return value;
    }

    private List<Block> readProgram(String of) {
        text = of;
        at = 0;
        ops = 0;
        List<Block> read = new ArrayList<>();
        do {
            String name = take("[a-z]+");
            int here = at - name.length();
            for (Block other : read) {
                if (other.name.equals(name)) {
                    throw new Fault(3, here);
                }
            }
            if (read.size() == 12) {
                throw new Fault(5, here);
            }
            Block block = new Block();
            block.name = name;
            block.times = takeWhole(1, 50);
            take("\\{");
            readLine(block);
            while (!peek().equals("}")) {
                take(";");
                readLine(block);
            }
            take("\\}");
            read.add(block);
        } while (!peek().isEmpty());
        return read;
    }

    private void readLine(Block block) {
        if (atWord() && block.lines.size() == 8 && peek().matches("if|[a-h]")) {
            throw new Fault(5, at);
        }
        Line line = new Line();
        if (peek().equals("if")) {
            countOp(at);
            take("if");
            line.guard = takeName();
        }
        line.target = takeName();
        take("=");
        line.sum = readSum(0);
        block.lines.add(line);
    }

    private Node readSum(int open) {
        Node sum = readPart(open);
        String sign = peek();
        while (peek().matches("[+\\-*&|^<]")) {
            if (!peek().equals(sign)) {
                throw new Fault(1, at);
            }
            countOp(at);
            at++;
            sum = new Node(sign.charAt(0), -1, 0, sum, readPart(open));
        }
        return sum;
    }

    private Node readPart(int open) {
        String token = peek();
        if (token.equals("~")) {
            countOp(at);
            at++;
            return new Node('~', -1, 0, readPart(open), null);
        }
        if (token.equals("(")) {
            if (open == 8) {
                throw new Fault(5, at);
            }
            at++;
            Node inner = readSum(open + 1);
            take("\\)");
            return inner;
        }
        if (token.matches("[0-9]+")) {
            return new Node((char) 0, -1, takeWhole(0, 65535), null, null);
        }
        return new Node((char) 0, takeName(), 0, null, null);
    }

    // ---- worth and needs

    private long worth(Node node, int[] on) {
        long top = 1L << width;
        if (node.name >= 0) {
            return on[node.name];
        }
        if (node.left == null) {
            return node.whole % top;
        }
        long left = worth(node.left, on);
        if (node.sign == '~') {
            return top - 1 - left;
        }
        long right = worth(node.right, on);
        long result;
        switch (node.sign) {
            case '+': result = left + right; break;
            case '-': result = left - right; break;
            case '*': result = left * right; break;
            case '&': result = left & right; break;
            case '|': result = left | right; break;
            case '^': result = left ^ right; break;
            default: result = left < right ? 1 : 0; break;
        }
        return Math.floorMod(result, top);
    }

    private int[] done(Block block, int[] from) {
        int[] on = from.clone();
        for (Line line : block.lines) {
            if (line.guard < 0 || on[line.guard] != 0) {
                on[line.target] = (int) worth(line.sum, on);
            }
        }
        return on;
    }

    private static void signsOf(Node node, List<Character> into) {
        if (node.left != null) {
            into.add(node.sign);
            signsOf(node.left, into);
            if (node.right != null) {
                signsOf(node.right, into);
            }
        }
    }

    private static void namesOf(Node node, Set<Integer> into) {
        if (node.name >= 0) {
            into.add(node.name);
        }
        if (node.left != null) {
            namesOf(node.left, into);
        }
        if (node.right != null) {
            namesOf(node.right, into);
        }
    }

    private static List<Character> signsOf(Line line) {
        List<Character> signs = new ArrayList<>();
        signsOf(line.sum, signs);
        if (line.guard >= 0) {
            signs.add('i');
        }
        return signs;
    }

    private static int opsOf(Block block) {
        int all = 0;
        for (Line line : block.lines) {
            all += signsOf(line).size();
        }
        return all;
    }

    private int codeTicks(Block block) {
        int one = 0;
        for (Line line : block.lines) {
            one += 1;
            for (char sign : signsOf(line)) {
                one += sign == '*' ? width : 1;
            }
        }
        return one * block.times;
    }

    private int gatesOf(Block block) {
        int all = 0;
        for (Line line : block.lines) {
            for (char sign : signsOf(line)) {
                all += switch (sign) {
                    case '+' -> 5 * width;
                    case '-', '<' -> 6 * width;
                    case '*' -> 6 * width * width;
                    case 'i' -> 4 * width;
                    default -> width;
                };
            }
        }
        return all;
    }

    private int depthOf(Node node, int[] depths) {
        if (node.name >= 0) {
            return depths[node.name];
        }
        if (node.left == null) {
            return 0;
        }
        int left = depthOf(node.left, depths);
        int right = node.right == null ? 0 : depthOf(node.right, depths);
        int own = switch (node.sign) {
            case '+' -> 2 * width;
            case '-' -> 2 * width + 1;
            case '*' -> 4 * width;
            case '<' -> 2 * width + 2;
            default -> 1;
        };
        return own + Math.max(left, right);
    }

    private int depthOf(Block block) {
        int[] depths = new int[8];
        int deepest = 0;
        for (Line line : block.lines) {
            int depth = depthOf(line.sum, depths);
            if (line.guard >= 0) {
                depth = 5 + Math.max(depth, Math.max(depths[line.guard], depths[line.target]));
            }
            depths[line.target] = depth;
            deepest = Math.max(deepest, depth);
        }
        return deepest;
    }

    private int circuitTicks(Block block) {
        int depth = depthOf(block);
        int each = depth / per + (depth % per == 0 ? 0 : 1);
        return 1 + block.times * (each < 1 ? 1 : each);
    }

    private static Set<Integer> readsOf(Block block) {
        Set<Integer> reads = new TreeSet<>();
        for (int i = 0; i < block.lines.size(); i++) {
            Line line = block.lines.get(i);
            Set<Integer> asked = new TreeSet<>();
            namesOf(line.sum, asked);
            if (line.guard >= 0) {
                asked.add(line.guard);
                asked.add(line.target);
            }
            for (Line ahead : block.lines.subList(0, i)) {
                if (ahead.guard < 0) {
                    asked.remove(ahead.target);
                }
            }
            reads.addAll(asked);
        }
        return reads;
    }

    private static Set<Integer> writesOf(Block block) {
        Set<Integer> writes = new TreeSet<>();
        for (Line line : block.lines) {
            writes.add(line.target);
        }
        return writes;
    }

    private static int bits(Set<Integer> set) {
        int bits = 0;
        for (int k : set) {
            bits |= 1 << k;
        }
        return bits;
    }

    // ---- cuts

    private static final Set<Integer> ALL = new TreeSet<>(List.of(0, 1, 2, 3, 4, 5, 6, 7));

    private Cut cut(int bits) {
        Cut cut = new Cut();
        cut.bits = bits;
        List<Set<Integer>> fresh = List.of(new TreeSet<>(ALL), new TreeSet<>(ALL));
        for (int b = 0; b < blocks.size(); b++) {
            Block block = blocks.get(b);
            int side = bits >> b & 1;
            bring(cut, readsOf(block), fresh, side);
            fresh.get(1 - side).removeAll(writesOf(block));
            fresh.get(side).addAll(writesOf(block));
            cut.ticks += side == 1 ? circuitTicks(block) : codeTicks(block);
            cut.gates += side == 1 ? gatesOf(block) : 0;
        }
        bring(cut, ALL, fresh, 0);
        cut.ticks += move * cut.moved;
        return cut;
    }

    private static void bring(Cut cut, Set<Integer> wanted, List<Set<Integer>> fresh, int side) {
        Set<Integer> lacking = new TreeSet<>(wanted);
        lacking.removeAll(fresh.get(side));
        fresh.get(side).addAll(lacking);
        cut.moves.add(lacking);
        cut.moved += lacking.size();
        cut.room = Math.max(cut.room, lacking.size());
    }

    private List<Cut> allCuts() {
        List<Cut> all = new ArrayList<>();
        for (int bits = 0; bits < 1 << blocks.size(); bits++) {
            all.add(cut(bits));
        }
        return all;
    }

    private static boolean bettered(Cut cut, List<Cut> all) {
        for (Cut other : all) {
            boolean asFew = other.ticks <= cut.ticks && other.gates <= cut.gates;
            boolean less = other.ticks < cut.ticks || other.gates < cut.gates;
            if (asFew && (less || other.bits < cut.bits)) {
                return true;
            }
        }
        return false;
    }

    // ---- the face

    private boolean refuse(int why) {
        trouble = why;
        return why != 0;
    }

    private int ofCut(int cut) {
        return blocks.isEmpty() ? 4 : cut < 0 || cut >= 1 << blocks.size() ? 2 : 0;
    }

    private int ofBlock(int b) {
        return blocks.isEmpty() ? 4 : isBlock(b) ? 0 : 1;
    }

    private boolean isBlock(int b) {
        return b >= 0 && b < blocks.size();
    }

    boolean set(int w, int p, int m) {
        if (refuse(w < 4 || w > 16 || p < 1 || p > 1000 || m < 0 || m > 100 ? 2 : 0)) {
            return false;
        }
        width = w;
        per = p;
        move = m;
        for (int k = 0; k < 8; k++) {
            numbers[k] %= 1 << w;
        }
        return true;
    }

    int feed(int... five) {
        if (tape.length() > 580) {
            return -1;
        }
        for (int number : five) {
            for (int shift = 24; shift >= 0; shift -= 8) {
                tape.append((char) (number >> shift & 255));
            }
        }
        return tape.length();
    }

    int program(int n) {
        if (refuse(n < 0 || n > tape.length() ? 2 : 0)) {
            return -1;
        }
        String of = tape.substring(0, n);
        tape.setLength(0);
        try {
            blocks = readProgram(of);
            fault = 0;
            return blocks.size();
        } catch (Fault f) {
            fault = f.number;
            place = f.place;
            trouble = 3;
            return -1;
        }
    }

    int fault() {
        return fault;
    }

    int where() {
        return trouble == 3 ? place : -1;
    }

    boolean put(int k, int value) {
        if (refuse(k < 0 || k > 7 ? 1 : 0)) {
            return false;
        }
        numbers[k] = Math.floorMod(value, 1 << width);
        return true;
    }

    int get(int k) {
        return k < 0 || k > 7 ? -1 : numbers[k];
    }

    int block(int b, int what) {
        if (!isBlock(b)) {
            return -1;
        }
        Block block = blocks.get(b);
        return switch (what) {
            case 0 -> block.times;
            case 1 -> block.lines.size();
            case 2 -> opsOf(block);
            case 3 -> codeTicks(block);
            case 4 -> gatesOf(block);
            case 5 -> depthOf(block);
            case 6 -> circuitTicks(block);
            case 7 -> bits(readsOf(block));
            case 8 -> bits(writesOf(block));
            default -> -1;
        };
    }

    int ticks(int cut) {
        return refuse(ofCut(cut)) ? -1 : cut(cut).ticks;
    }

    int gates(int cut) {
        return refuse(ofCut(cut)) ? -1 : cut(cut).gates;
    }

    int moved(int cut) {
        return refuse(ofCut(cut)) ? -1 : cut(cut).moved;
    }

    int room(int cut) {
        return refuse(ofCut(cut)) ? -1 : cut(cut).room;
    }

    int moves(int cut, int b) {
        if (refuse(ofCut(cut)) || refuse(b < 0 || b > blocks.size() ? 1 : 0)) {
            return -1;
        }
        return bits(cut(cut).moves.get(b));
    }

    int quickest(int gates) {
        if (refuse(blocks.isEmpty() ? 4 : gates < 0 || gates > 1000000 ? 2 : 0)) {
            return -1;
        }
        Cut best = null;
        for (Cut cut : allCuts()) {
            boolean fits = cut.gates <= gates;
            if (fits && (best == null || cut.ticks < best.ticks
                    || cut.ticks == best.ticks && cut.gates < best.gates)) {
                best = cut;
            }
        }
        return best.bits;
    }

    int fewest(int ticks) {
        if (refuse(blocks.isEmpty() ? 4 : ticks < 0 ? 2 : 0)) {
            return -1;
        }
        int least = -2;
        for (Cut cut : allCuts()) {
            if (cut.ticks <= ticks && (least < 0 || cut.gates < least)) {
                least = cut.gates;
            }
        }
        return least;
    }

    int turn(int cut, int b) {
        if (refuse(ofCut(cut)) || refuse(ofBlock(b))) {
            return Integer.MIN_VALUE;
        }
        return cut(cut ^ 1 << b).ticks - cut(cut).ticks;
    }

    int edges() {
        if (refuse(blocks.isEmpty() ? 4 : 0)) {
            return -1;
        }
        List<Cut> all = allCuts();
        List<Cut> best = new ArrayList<>();
        for (Cut cut : all) {
            if (!bettered(cut, all)) {
                best.add(cut);
            }
        }
        Collections.sort(best, (x, y) -> Integer.compare(x.gates, y.gates));
        edges = new ArrayList<>();
        for (Cut cut : best) {
            edges.add(cut.bits);
        }
        return edges.size();
    }

    int edge(int i) {
        return i < 0 || i >= edges.size() ? -1 : edges.get(i);
    }

    int run(int cut) {
        if (refuse(ofCut(cut))) {
            return -1;
        }
        for (Block block : blocks) {
            for (int time = 0; time < block.times; time++) {
                numbers = done(block, numbers);
            }
        }
        return cut(cut).ticks;
    }

    boolean once(int b, boolean circuit) {
        if (refuse(ofBlock(b))) {
            return false;
        }
        numbers = done(blocks.get(b), numbers);
        return true;
    }

    int changes(int b, int k) {
        if (refuse(ofBlock(b)) || refuse(k < 0 || k > 7 ? 1 : 0)) {
            return -1;
        }
        return numbers[k] ^ done(blocks.get(b), numbers)[k];
    }

    int still(int b) {
        if (refuse(ofBlock(b))) {
            return -1;
        }
        return java.util.Arrays.equals(numbers, done(blocks.get(b), numbers)) ? 1 : 0;
    }

    /** The byte, or -1 where the class is to throw. */
    int name(int b, int i) {
        boolean there = isBlock(b) && i >= 0 && i < blocks.get(b).name.length();
        return there ? blocks.get(b).name.charAt(i) : -1;
    }

    int count(int what) {
        int all = 0;
        for (Block block : blocks) {
            all += opsOf(block);
        }
        return switch (what) {
            case 0 -> width;
            case 1 -> per;
            case 2 -> move;
            case 3 -> blocks.size();
            case 4 -> tape.length();
            case 5 -> all;
            default -> -1;
        };
    }

    int trouble() {
        return trouble;
    }
}
