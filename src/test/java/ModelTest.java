import java.nio.charset.StandardCharsets;
import java.util.Random;

/** Runs of calls, made from fixed seeds, whose every answer is held against the plain Model. */
public final class ModelTest {
    private final Random random;
    private final TextMaker texts;
    private final HalfGates desk = new HalfGates();
    private final Model model = new Model();
    /** An object is used for at most 512 calls: what it answers later is free. */
    private static final int MOST_CALLS = 512;

    private final String run;
    private final int mostBlocks;
    private int made = 0;

    private ModelTest(int seed, int mostBlocks) {
        random = new Random(seed);
        texts = new TextMaker(seed * 7919L + 13);
        run = "run " + seed + ": ";
        this.mostBlocks = mostBlocks;
    }

    public static void main(String[] args) {
        for (int seed = 0; seed < 1000; seed++) {
            new ModelTest(seed, 5).calls();
        }
        for (int seed = 1000; seed < 1012; seed++) {
            new ModelTest(seed, 12).calls();
        }
        for (int seed = 2000; seed < 2400; seed++) {
            new ModelTest(seed, 14).readings(12);
        }
        Check.end();
    }

    private int below(int n) {
        return random.nextInt(n);
    }

    private void due(String call, long got, long want) {
        made++;
        Check.due(run + call, got, want);
    }

    private void due(String call, boolean got, boolean want) {
        due(call, got ? 1 : 0, want ? 1 : 0);
    }

    private boolean mayGoOn(int calls) {
        return made + calls <= MOST_CALLS;
    }

    /** Calls as long as the dearest, a text of 600 bytes, may still come. */
    private void calls() {
        for (int i = 0; mayGoOn(40); i++) {
            call(i == 20 ? 0 : below(32));
            if (below(3) == 0) {
                due("trouble()", desk.trouble(), model.trouble());
                due("where()", desk.where(), model.where());
            }
        }
    }

    private void readings(int n) {
        for (int i = 0; i < n; i++) {
            tell(1 + below(mostBlocks), 1 + below(9));
            due("fault()", desk.fault(), model.fault());
            due("where()", desk.where(), model.where());
            due("count(5)", desk.count(5), model.count(5));
        }
    }

    private void tell(int blocks, int lines) {
        String text = texts.program(blocks, lines, below(4));
        if (below(3) == 0) {
            text = texts.spoilt(text);
        }
        byte[] bytes = text.getBytes(StandardCharsets.ISO_8859_1);
        if (bytes.length > 600 - model.count(4)) {
            due("program(0)", desk.program(0), model.program(0));
        }
        for (int[] f : Check.feeds(bytes)) {
            due("feed", desk.feed(f[0], f[1], f[2], f[3], f[4]), model.feed(f));
        }
        due("program of [" + text + "]", desk.program(bytes.length), model.program(bytes.length));
    }

    private int cut() {
        int blocks = Math.max(0, model.count(3));
        return below(12) == 0 ? below(3) == 0 ? -1 - below(5) : (1 << blocks) + below(3) : below(1 << blocks);
    }

    private int block() {
        return below(8) == 0 ? below(16) - 2 : below(Math.max(1, model.count(3)));
    }

    private int number() {
        return below(8) == 0 ? below(12) - 2 : below(8);
    }

    private void call(int which) {
        switch (which) {
            case 0, 1 -> tell(1 + below(mostBlocks), mostBlocks > 5 ? 3 : 6);
            case 2 -> set(4 + below(13), 1 + below(below(2) == 0 ? 1000 : 60), below(101));
            case 3 -> set(2 + below(17), below(5) == 0 ? below(2) * 1001 : 30, below(5) == 0 ? 101 - below(2) * 102 : 2);
            case 4 -> program();
            case 5 -> feed();
            case 6, 7, 8 -> put();
            case 9, 10 -> get();
            case 11, 12, 13 -> needs();
            case 14 -> cuts();
            case 15 -> moves();
            case 16 -> quickest();
            case 17 -> fewest();
            case 18 -> turn();
            case 19 -> edges();
            case 20, 21 -> edge();
            case 22, 23 -> runs();
            case 24, 25 -> once();
            case 26, 27 -> changes();
            case 28 -> still();
            case 29 -> name();
            case 30 -> count();
            default -> due("fault()", desk.fault(), model.fault());
        }
    }

    private void set(int w, int p, int m) {
        due("set " + w + " " + p + " " + m, desk.set(w, p, m), model.set(w, p, m));
    }

    private void program() {
        if (below(6) == 0) {
            int n = below(2) == 0 ? -1 - below(3) : model.count(4) + 1 + below(3);
            due("program " + n, desk.program(n), model.program(n));
        }
    }

    private void feed() {
        int a = below(1 << 30);
        due("feed", desk.feed(a, ~a, a * 3, -a, a ^ 99), model.feed(a, ~a, a * 3, -a, a ^ 99));
    }

    private void put() {
        int k = number();
        int value = below(2) == 0 ? random.nextInt() : below(300) - 20;
        due("put " + k + " " + value, desk.put(k, value), model.put(k, value));
    }

    private void get() {
        int k = number();
        due("get " + k, desk.get(k), model.get(k));
    }

    private void needs() {
        int b = block();
        for (int what = -1; what <= 9; what++) {
            due("block " + b + " " + what, desk.block(b, what), model.block(b, what));
        }
    }

    private void cuts() {
        int cut = cut();
        due("ticks " + cut, desk.ticks(cut), model.ticks(cut));
        due("gates " + cut, desk.gates(cut), model.gates(cut));
        due("moved " + cut, desk.moved(cut), model.moved(cut));
        due("room " + cut, desk.room(cut), model.room(cut));
    }

    private void moves() {
        int cut = cut();
        int b = below(3) == 0 ? model.count(3) + below(2) : block();
        due("moves " + cut + " " + b, desk.moves(cut, b), model.moves(cut, b));
    }

    private void quickest() {
        int gates = below(8) == 0 ? below(2) * 1000002 - 1 : below(below(2) == 0 ? 500 : 20000);
        due("quickest " + gates, desk.quickest(gates), model.quickest(gates));
    }

    private void fewest() {
        int ticks = below(8) == 0 ? below(3) - 2 : below(below(2) == 0 ? 100 : 1000);
        due("fewest " + ticks, desk.fewest(ticks), model.fewest(ticks));
    }

    private void turn() {
        int cut = cut();
        int b = block();
        due("turn " + cut + " " + b, desk.turn(cut, b), model.turn(cut, b));
    }

    private void edges() {
        int got = desk.edges();
        due("edges", got, model.edges());
        for (int i = -1; i <= got && mayGoOn(1); i++) {
            due("edge " + i, desk.edge(i), model.edge(i));
        }
    }

    private void edge() {
        int i = below(12) - 1;
        due("edge " + i, desk.edge(i), model.edge(i));
    }

    private void runs() {
        int cut = cut();
        due("run " + cut, desk.run(cut), model.run(cut));
        for (int k = 0; k < 8; k++) {
            due("get " + k + " behind run", desk.get(k), model.get(k));
        }
    }

    private void once() {
        int b = block();
        boolean circuit = below(2) == 0;
        due("once " + b, desk.once(b, circuit), model.once(b, circuit));
    }

    private void changes() {
        int b = block();
        int k = number();
        due("changes " + b + " " + k, desk.changes(b, k), model.changes(b, k));
    }

    private void still() {
        int b = block();
        due("still " + b, desk.still(b), model.still(b));
    }

    private void name() {
        int b = block();
        int i = below(10) - 1;
        due("name " + b + " " + i, Check.nameByte(desk, b, i), model.name(b, i));
    }

    private void count() {
        int what = below(8) - 1;
        due("count " + what, desk.count(what), model.count(what));
    }
}
