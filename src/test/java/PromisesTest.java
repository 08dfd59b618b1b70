/** Each promise by answers reckoned by hand: ordinary inputs, the edges that the document names, wrong inputs. */
public final class PromisesTest {
    /**
     * Width 8, per 40: one: 14 ticks of code, 128 gates, depth 23, 3 ticks as circuit, reads bcd, writes ad;
     * two: 30, 384, 32, 4, reads a, writes e; tri: 1, 0, 0, 2, reads none, writes h.
     */
    private static final String THREE = "one 2{a=b+c;if a d=~b-1;a=d}two 3{e=a*7;e=e}tri 1{h=9}";

    public static void main(String[] args) {
        newObject();
        set();
        feed();
        program();
        faultAndWhere();
        putAndGet();
        block();
        blockDepths();
        blockReads();
        cuts();
        moves();
        quickest();
        fewest();
        turn();
        edges();
        edgesAlike();
        fullSize();
        run();
        runSigns();
        once();
        changesAndStill();
        name();
        count();
        trouble();
        Check.end();
    }

    private static void due(String call, long got, long want) {
        Check.due(call, got, want);
    }

    private static void due(String call, boolean got, boolean want) {
        Check.due(call, got, want);
    }

    private static void dueTrouble(HalfGates desk, String call, long got, long want, int trouble) {
        due(call, got, want);
        due("trouble of " + call, desk.trouble(), trouble);
    }

    private static void newObject() {
        HalfGates desk = new HalfGates();
        due("NONE", HalfGates.NONE, -1);
        due("width at first", desk.count(0), 8);
        due("per at first", desk.count(1), 40);
        due("move at first", desk.count(2), 3);
        due("blocks at first", desk.count(3), 0);
        due("tape at first", desk.count(4), 0);
        due("ops at first", desk.count(5), 0);
        for (int k = 0; k < 8; k++) {
            due("get " + k + " at first", desk.get(k), 0);
        }
        due("trouble at first", desk.trouble(), 0);
        due("fault at first", desk.fault(), 0);
        due("where at first", desk.where(), -1);
        due("edge at first", desk.edge(0), -1);
        due("block at first", desk.block(0, 0), -1);
        due("trouble, block() not being refused", desk.trouble(), 0);
        dueTrouble(desk, "edges at first", desk.edges(), -1, 4);
        desk.put(0, 0);
        dueTrouble(desk, "still at first", desk.still(0), -1, 4);
    }

    private static void set() {
        HalfGates desk = new HalfGates();
        desk.put(0, 255);
        desk.put(7, 0x53);
        due("set 4 1 0", desk.set(4, 1, 0), true);
        due("get 0 at width 4", desk.get(0), 15);
        due("get 7 at width 4", desk.get(7), 3);
        due("per", desk.count(1), 1);
        due("move", desk.count(2), 0);
        due("set 16 1000 100", desk.set(16, 1000, 100), true);
        due("get 0 at width 16", desk.get(0), 15);
        int[][] wrong = {{3, 1, 1}, {17, 1, 1}, {8, 0, 1}, {8, 1001, 1}, {8, 1, -1}, {8, 1, 101},
            {-2147483648, 1, 1}, {8, -2147483648, 1}, {8, 1, 2147483647}};
        for (int[] w : wrong) {
            desk.put(0, 0);
            due("set wrong", desk.set(w[0], w[1], w[2]), false);
            due("trouble of set wrong", desk.trouble(), 2);
            due("width behind set wrong", desk.count(0), 16);
            due("per behind set wrong", desk.count(1), 1000);
            due("move behind set wrong", desk.count(2), 100);
        }
        due("set again", desk.set(9, 2, 3), true);
        due("trouble of set", desk.trouble(), 0);
    }

    private static void feed() {
        HalfGates desk = new HalfGates();
        // "x 1{a=1}" and twelve blanks; a number's highest byte comes first
        due("feed", desk.feed(0x78203120, 0x7B613D31, 0x7D202020, 0x20202020, 0x20202020), 20);
        due("program of it", desk.program(9), 1);
        for (int i = 1; i <= 30; i++) {
            due("feed " + i, desk.feed(-1, 0, 1, 2, 3), 20 * i);
        }
        due("feed 31", desk.feed(-1, 0, 1, 2, 3), -1);
        due("count 4", desk.count(4), 600);
        due("program of all 600", desk.program(600), -1);
        due("its fault", desk.fault(), 1);
        due("its place", desk.where(), 0);
        due("feed anew", desk.feed(0, 0, 0, 0, 0), 20);
        desk.put(9, 9);
        due("feed leaves trouble alone", desk.feed(0, 0, 0, 0, 0), 40);
        due("trouble", desk.trouble(), 1);
    }

    private static void program() {
        HalfGates desk = new HalfGates();
        due("program", Check.tell(desk, THREE), 3);
        due("tape behind it", desk.count(4), 0);
        desk.feed(0x78203120, 0x7B613D31, 0x7D202020, 0x20202020, 0x20202020);
        dueTrouble(desk, "program -1", desk.program(-1), -1, 2);
        dueTrouble(desk, "program 21", desk.program(21), -1, 2);
        dueTrouble(desk, "program most", desk.program(2147483647), -1, 2);
        due("tape stays", desk.count(4), 20);
        due("fault", desk.fault(), 0);
        dueTrouble(desk, "program 8", desk.program(8), -1, 3);
        due("tape is empty", desk.count(4), 0);
        due("former program stays", desk.count(3), 3);
        due("former needs stay", desk.block(1, 3), 30);
        due("former name stays", desk.name(2, 0), 't');
        dueTrouble(desk, "program in its place", Check.tell(desk, "x 1{a=1}"), 1, 0);
        due("blocks", desk.count(3), 1);
        due("former block is gone", desk.block(1, 0), -1);
        // numbers stay when a program comes
        desk.put(3, 77);
        Check.tell(desk, THREE);
        due("get 3", desk.get(3), 77);
    }

    private static void faultAndWhere() {
        HalfGates desk = new HalfGates();
        Check.tell(desk, "x 1{a=i}");
        due("fault", desk.fault(), 2);
        due("where", desk.where(), 6);
        desk.get(99);
        desk.feed(0, 0, 0, 0, 0);
        desk.block(0, 0);
        desk.edge(0);
        desk.count(9);
        Check.nameByte(desk, 0, 0);
        due("where, no call since that may be refused", desk.where(), 6);
        due("trouble", desk.trouble(), 3);
        desk.program(21);
        due("fault behind a program refused by 2", desk.fault(), 2);
        due("where behind a program refused by 2", desk.where(), -1);
        Check.tell(desk, "x 1{a=i}");
        desk.program(0);
        due("fault of an empty text", desk.fault(), 1);
        desk.put(0, 1);
        due("where behind another call", desk.where(), -1);
        due("fault behind another call", desk.fault(), 1);
        Check.tell(desk, THREE);
        due("fault of a good one", desk.fault(), 0);
        due("where of a good one", desk.where(), -1);
    }

    private static void putAndGet() {
        HalfGates desk = new HalfGates();
        due("put 0 256", desk.put(0, 256), true);
        due("get 0", desk.get(0), 0);
        due("put 7 511", desk.put(7, 511), true);
        due("get 7", desk.get(7), 255);
        due("put 1 -2", desk.put(1, -2), true);
        due("get 1", desk.get(1), 254);
        due("put 1 least", desk.put(1, -2147483648), true);
        due("get 1", desk.get(1), 0);
        due("put -1", desk.put(-1, 1), false);
        due("trouble", desk.trouble(), 1);
        due("put 8", desk.put(8, 1), false);
        due("get -1", desk.get(-1), -1);
        due("get 8", desk.get(8), -1);
        due("trouble, get() not being refused", desk.trouble(), 1);
        desk.set(16, 1, 1);
        desk.put(2, -1);
        due("get 2 at width 16", desk.get(2), 65535);
    }

    private static void block() {
        HalfGates desk = Check.desk(THREE);
        int[][] want = {{2, 3, 4, 14, 128, 23, 3, 14, 9}, {3, 2, 1, 30, 384, 32, 4, 1, 16}, {1, 1, 0, 1, 0, 0, 2, 0, 128}};
        for (int b = 0; b < 3; b++) {
            for (int what = 0; what < 9; what++) {
                due("block " + b + " " + what, desk.block(b, what), want[b][what]);
            }
            due("block " + b + " -1", desk.block(b, -1), -1);
            due("block " + b + " 9", desk.block(b, 9), -1);
        }
        due("block 3 0", desk.block(3, 0), -1);
        due("block -1 0", desk.block(-1, 0), -1);
        desk.set(16, 23, 3);
        due("code's ticks of * at 16", desk.block(1, 3), (1 + 16 + 1) * 3);
        due("gates of * at 16", desk.block(1, 4), 6 * 16 * 16);
        desk.set(8, 23, 3);
        due("depth 23 by 23", desk.block(0, 6), 3);
        desk.set(8, 22, 3);
        due("depth 23 by 22", desk.block(0, 6), 5);
        desk.set(8, 1, 3);
        due("depth 23 by 1", desk.block(0, 6), 47);
        due("depth 0 by 1", desk.block(2, 6), 2);
    }

    private static void blockDepths() {
        int w = 5;
        String[] sums = {"a+b", "a-b", "a*b", "a&b", "a|b", "a^b", "a<b", "~a", "a", "7"};
        int[] gates = {5 * w, 6 * w, 6 * w * w, w, w, w, 6 * w, w, 0, 0};
        int[] depths = {2 * w, 2 * w + 1, 4 * w, 1, 1, 1, 2 * w + 2, 1, 0, 0};
        for (int i = 0; i < sums.length; i++) {
            HalfGates desk = Check.desk("x 1{c=" + sums[i] + "}y 1{if d c=" + sums[i] + "}");
            desk.set(w, 40, 3);
            due("gates of " + sums[i], desk.block(0, 4), gates[i]);
            due("depth of " + sums[i], desk.block(0, 5), depths[i]);
            due("gates of if " + sums[i], desk.block(1, 4), gates[i] + 4 * w);
            due("depth of if " + sums[i], desk.block(1, 5), depths[i] + 5);
        }
        due("from the left", Check.desk("x 1{c=(a+b)+a+b}").block(0, 5), 48);
        due("the deeper of two", Check.desk("x 1{c=a&(b*b)}").block(0, 5), 33);
        due("or had", Check.desk("x 1{c=a*b;c=1}").block(0, 5), 32);
        due("a number written", Check.desk("x 1{c=a*b;d=c*c}").block(0, 5), 64);
        due("what the if's number has", Check.desk("x 1{c=a*b;if c d=1}").block(0, 5), 37);
        due("what the number was", Check.desk("x 1{c=a*b;if d c=1}").block(0, 5), 37);
        due("written anew it is less deep", Check.desk("x 1{c=a*b;c=1;d=c&c}").block(0, 5), 32);
    }

    private static void blockReads() {
        due("its own line's", Check.desk("x 1{a=a+1}").block(0, 7), 1);
        due("written ahead", Check.desk("x 1{a=1;b=a}").block(0, 7), 0);
        due("written ahead with an if", Check.desk("x 1{if c a=1;b=a}").block(0, 7), 5);
        due("with an if the one it writes", Check.desk("x 1{if c a=1}").block(0, 7), 5);
        due("with an if, written ahead", Check.desk("x 1{a=2;c=1;if c a=1}").block(0, 7), 0);
        due("written behind", Check.desk("x 1{b=h;h=1}").block(0, 7), 128);
        due("writes with an if", Check.desk("x 1{if c a=1;h=2}").block(0, 8), 129);
    }

    private static void cuts() {
        HalfGates desk = Check.desk(THREE);
        int[] ticks = {45, 40, 25, 17, 49, 44, 29, 21};
        int[] gates = {0, 128, 384, 512, 0, 128, 384, 512};
        int[] moved = {0, 2, 2, 3, 1, 3, 3, 4};
        int[] room = {0, 1, 1, 3, 1, 2, 2, 4};
        for (int cut = 0; cut < 8; cut++) {
            dueTrouble(desk, "ticks " + cut, desk.ticks(cut), ticks[cut], 0);
            dueTrouble(desk, "gates " + cut, desk.gates(cut), gates[cut], 0);
            dueTrouble(desk, "moved " + cut, desk.moved(cut), moved[cut], 0);
            dueTrouble(desk, "room " + cut, desk.room(cut), room[cut], 0);
        }
        for (int cut : new int[] {-1, 8, 2147483647, -2147483648}) {
            dueTrouble(desk, "ticks " + cut, desk.ticks(cut), -1, 2);
            dueTrouble(desk, "gates " + cut, desk.gates(cut), -1, 2);
            dueTrouble(desk, "moved " + cut, desk.moved(cut), -1, 2);
            dueTrouble(desk, "room " + cut, desk.room(cut), -1, 2);
        }
        desk.set(8, 40, 0);
        due("ticks 7 with move 0", desk.ticks(7), 9);
        HalfGates none = new HalfGates();
        dueTrouble(none, "ticks", none.ticks(-1), -1, 4);
        none.put(0, 0);
        dueTrouble(none, "gates", none.gates(-1), -1, 4);
        none.put(0, 0);
        dueTrouble(none, "moved", none.moved(-1), -1, 4);
        none.put(0, 0);
        dueTrouble(none, "room", none.room(-1), -1, 4);
    }

    private static void moves() {
        HalfGates desk = Check.desk(THREE);
        int[][] want = {{0, 0, 0, 0}, {0, 1, 0, 8}, {0, 1, 0, 16}, {0, 0, 0, 25},
            {0, 0, 0, 128}, {0, 1, 0, 136}, {0, 1, 0, 144}, {0, 0, 0, 153}};
        for (int cut = 0; cut < 8; cut++) {
            for (int b = 0; b < 4; b++) {
                dueTrouble(desk, "moves " + cut + " " + b, desk.moves(cut, b), want[cut][b], 0);
            }
        }
        dueTrouble(desk, "moves 0 4", desk.moves(0, 4), -1, 1);
        dueTrouble(desk, "moves 0 -1", desk.moves(0, -1), -1, 1);
        dueTrouble(desk, "moves 8 4", desk.moves(8, 4), -1, 2);
        HalfGates none = new HalfGates();
        dueTrouble(none, "moves without a program", none.moves(0, 0), -1, 4);
        // what was moved is fresh on both sides until it is written again
        HalfGates both = Check.desk("p 1{a=1}q 1{b=a}r 1{c=a}s 1{a=2}t 1{d=a}");
        int cut = 0b10110;
        int[] moved = {0, 1, 0, 0, 1, 14};
        for (int b = 0; b < 6; b++) {
            due("moves of five, " + b, both.moves(cut, b), moved[b]);
        }
        due("moved of five", both.moved(cut), 5);
        due("room of five", both.room(cut), 3);
        // a line whose if may not hold still makes its number fresh on its side alone
        due("moves behind an if", Check.desk("p 1{if b a=1}").moves(1, 1), 1);
    }

    private static void quickest() {
        HalfGates desk = Check.desk(THREE);
        int[][] want = {{0, 0}, {127, 0}, {128, 1}, {383, 1}, {384, 2}, {511, 2}, {512, 3}, {1000000, 3}};
        for (int[] w : want) {
            dueTrouble(desk, "quickest " + w[0], desk.quickest(w[0]), w[1], 0);
        }
        dueTrouble(desk, "quickest -1", desk.quickest(-1), -1, 2);
        dueTrouble(desk, "quickest 1000001", desk.quickest(1000001), -1, 2);
        desk.set(8, 1, 100);
        due("quickest at another setting", desk.quickest(1000000), 0);
        HalfGates none = new HalfGates();
        dueTrouble(none, "quickest without a program", none.quickest(-1), -1, 4);
        HalfGates alike = Check.desk("x 2{a=a+1}y 2{b=b+1}");
        alike.set(8, 40, 0);
        due("the least bits of two alike", alike.quickest(79), 1);
        // as quick with and without gates: the fewest gates
        HalfGates quick = Check.desk("x 1{a=a+1}");
        quick.set(8, 40, 0);
        due("the fewest gates of as quick ones", quick.quickest(1000), 0);
        HalfGates free = Check.desk("x 1{a=1;b=2;c=3}");
        free.set(8, 40, 0);
        due("a circuit without gates", free.quickest(0), 1);
    }

    private static void fewest() {
        HalfGates desk = Check.desk(THREE);
        int[][] want = {{2147483647, 0}, {45, 0}, {44, 128}, {40, 128}, {39, 384}, {25, 384}, {24, 512}, {17, 512},
            {16, -2}, {0, -2}};
        for (int[] w : want) {
            dueTrouble(desk, "fewest " + w[0], desk.fewest(w[0]), w[1], 0);
        }
        dueTrouble(desk, "fewest -1", desk.fewest(-1), -1, 2);
        HalfGates none = new HalfGates();
        dueTrouble(none, "fewest without a program", none.fewest(-1), -1, 4);
    }

    private static void turn() {
        HalfGates desk = Check.desk(THREE);
        int none = -2147483648;
        dueTrouble(desk, "turn 0 0", desk.turn(0, 0), -5, 0);
        due("turn 0 2", desk.turn(0, 2), 4);
        due("turn 3 0", desk.turn(3, 0), 8);
        due("turn 3 1", desk.turn(3, 1), 23);
        due("turn 7 2", desk.turn(7, 2), -4);
        dueTrouble(desk, "turn 0 3", desk.turn(0, 3), none, 1);
        dueTrouble(desk, "turn 0 -1", desk.turn(0, -1), none, 1);
        dueTrouble(desk, "turn 8 3", desk.turn(8, 3), none, 2);
        dueTrouble(desk, "turn -1 0", desk.turn(-1, 0), none, 2);
        HalfGates empty = new HalfGates();
        dueTrouble(empty, "turn without a program", empty.turn(-1, -1), none, 4);
    }

    private static void edges() {
        HalfGates desk = Check.desk(THREE);
        due("edge ahead of edges", desk.edge(0), -1);
        dueTrouble(desk, "edges", desk.edges(), 4, 0);
        for (int i = 0; i < 4; i++) {
            due("edge " + i, desk.edge(i), i);
        }
        due("edge -1", desk.edge(-1), -1);
        due("edge 4", desk.edge(4), -1);
        // another program and setting: edge() tells of the latest edges() still
        Check.tell(desk, "x 1{a=1}");
        desk.set(8, 1, 0);
        desk.quickest(5);
        due("edge 3 of the latest edges()", desk.edge(3), 3);
        due("edges anew", desk.edges(), 1);
        due("edge 0 anew", desk.edge(0), 0);
        due("edge 1 anew", desk.edge(1), -1);
        HalfGates none = new HalfGates();
        dueTrouble(none, "edges without a program", none.edges(), -1, 4);
        due("edge without edges", none.edge(0), -1);
    }

    private static void edgesAlike() {
        HalfGates alike = Check.desk("x 2{a=a+1}y 2{b=b+1}");
        alike.set(8, 40, 0);
        due("edges, two alike", alike.edges(), 3);
        due("edge 0", alike.edge(0), 0);
        due("edge 1", alike.edge(1), 1);
        due("edge 2", alike.edge(2), 3);
        HalfGates same = Check.desk("x 1{a=1;b=2}");
        same.set(8, 40, 0);
        due("edges, both cuts alike", same.edges(), 1);
        due("edge 0", same.edge(0), 0);
        HalfGates free = Check.desk("x 1{a=1;b=2;c=3}");
        free.set(8, 40, 0);
        due("edges, the circuit better", free.edges(), 1);
        due("edge 0", free.edge(0), 1);
        // as quick with fewer gates, but more bits
        HalfGates fewer = Check.desk("x 2{a=a-1}y 2{b=b+1}");
        fewer.set(8, 40, 0);
        due("edges, one with fewer gates", fewer.edges(), 3);
        due("edge 1", fewer.edge(1), 2);
        due("edge 2", fewer.edge(2), 3);
        // more bits, yet fewer gates and more ticks: by GATES it stands ahead
        HalfGates ahead = Check.desk("x 3{a=a-1}y 2{b=b+1}");
        ahead.set(8, 40, 0);
        due("edges, all four", ahead.edges(), 4);
        due("edge 1", ahead.edge(1), 2);
        due("edge 2", ahead.edge(2), 1);
        due("edge 3", ahead.edge(3), 3);
        // one circuit alone is dear in gates and slower than another: beside that one it is no edge
        HalfGates beside = Check.desk("x 1{a=a*a}y 9{b=b+b+b}");
        beside.set(8, 40, 0);
        due("edges, one left out", beside.edges(), 3);
        due("edge 1", beside.edge(1), 2);
        due("edge 2", beside.edge(2), 3);
    }

    /** Twelve blocks of eight lines each, and twelve blocks alike. */
    private static void fullSize() {
        StringBuilder lines = new StringBuilder();
        StringBuilder alike = new StringBuilder();
        for (int b = 0; b < 12; b++) {
            char name = (char) ('a' + b);
            lines.append(name).append("1{a=1;b=2;c=3;d=4;e=5;f=6;g=7;h=a+").append(b).append('}');
            alike.append(name).append("2{a=a+1}");
        }
        HalfGates full = Check.desk(lines.toString());
        due("lines of the last", full.block(11, 1), 8);
        due("ticks 0 of the full one", full.ticks(0), 12 * 9);
        due("ticks 4095 of the full one", full.ticks(4095), 12 * 2 + 8 * 3);
        due("moves ahead of the last", full.moves(4095, 11), 0);
        due("moves at the end", full.moves(4095, 12), 255);
        due("moves 13", full.moves(4095, 13), -1);
        due("gates 4095 of the full one", full.gates(4095), 12 * 40);
        due("ticks 4096", full.ticks(4096), -1);
        due("run 4095", full.run(4095), 48);
        due("h behind it", full.get(7), 12);
        HalfGates twelve = Check.desk(alike.toString());
        twelve.set(8, 40, 0);
        due("edges of twelve alike", twelve.edges(), 13);
        for (int i = 0; i <= 12; i++) {
            due("edge " + i + " of twelve alike", twelve.edge(i), (1 << i) - 1);
            due("quickest " + i, twelve.quickest(40 * i), (1 << i) - 1);
            due("fewest " + i, twelve.fewest(48 - i), 40 * i);
        }
        due("fewest 35", twelve.fewest(35), -2);
        due("run of twelve alike", twelve.run(4095), 36);
        due("a behind it", twelve.get(0), 24);
    }

    private static void run() {
        for (int cut = 0; cut < 8; cut++) {
            HalfGates desk = Check.desk(THREE);
            desk.put(1, 5);
            desk.put(2, 6);
            int[] ticks = {45, 40, 25, 17, 49, 44, 29, 21};
            dueTrouble(desk, "run " + cut, desk.run(cut), ticks[cut], 0);
            int[] want = {249, 5, 6, 249, 207, 0, 0, 9};
            for (int k = 0; k < 8; k++) {
                due("get " + k + " behind run " + cut, desk.get(k), want[k]);
            }
        }
        HalfGates desk = Check.desk("x 50{a=a+1;if b c=c+1}");
        dueTrouble(desk, "run 2", desk.run(2), -1, 2);
        due("get 0", desk.get(0), 0);
        due("run 0", desk.run(0), 250);
        due("get 0", desk.get(0), 50);
        due("get 2", desk.get(2), 0);
        desk.put(1, 1);
        desk.run(0);
        due("get 2", desk.get(2), 50);
        HalfGates none = new HalfGates();
        dueTrouble(none, "run without a program", none.run(-1), -1, 4);
    }

    private static int worth(String sum, int width) {
        HalfGates desk = Check.desk("x 1{h=" + sum + "}");
        desk.set(width, 40, 3);
        desk.put(0, -1);
        desk.put(1, 1);
        desk.put(2, 6);
        desk.once(0, false);
        return desk.get(7);
    }

    private static void runSigns() {
        due("a+b", worth("a+b", 8), 0);
        due("d-b", worth("d-b", 8), 255);
        due("c-b-b-b", worth("c-b-b-b", 8), 3);
        due("a*a at 16", worth("a*a", 16), 1);
        due("a*(a-b) at 16", worth("a*(a-b)", 16), 2);
        due("a&c", worth("a&c", 8), 6);
        due("b|c", worth("b|c", 8), 7);
        due("a^c", worth("a^c", 8), 249);
        due("b<a", worth("b<a", 16), 1);
        due("a<b", worth("a<b", 16), 0);
        due("c<c", worth("c<c", 8), 0);
        due("b<c<b", worth("b<c<b", 8), 0);
        due("~c at 4", worth("~c", 4), 9);
        due("~~c", worth("~~c", 8), 6);
        due("~b<c", worth("~b<c", 8), 0);
        due("~(b<c)", worth("~(b<c)", 8), 254);
        due("65535 at 4", worth("65535", 4), 15);
        due("300 at 8", worth("300", 8), 44);
        due("300 at 16", worth("300", 16), 300);
        due("256<1 at 8", worth("256<1", 8), 1);
        due("(c+b)*(c-b)", worth("(c+b)*(c-b)", 8), 35);
        due("((((((((c+b)+b)+b)+b)+b)+b)+b)+b)", worth("((((((((c+b)+b)+b)+b)+b)+b)+b)+b)", 8), 14);
        due("b+(b+(b+(b+(b+(b+(b+(b+(b+c))))))))", worth("b+(b+(b+(b+(b+(b+(b+(b+(b+c))))))))".replace("(b+c)", "c"), 8), 14);
        // a whole is kept as told: a wider WIDTH brings it back
        HalfGates desk = Check.desk("x 1{a=300}");
        desk.set(4, 40, 3);
        desk.once(0, true);
        due("300 at 4", desk.get(0), 12);
        desk.set(16, 40, 3);
        desk.once(0, true);
        due("300 at 16 again", desk.get(0), 300);
    }

    private static void once() {
        HalfGates desk = Check.desk("x 9{a=a+1}y 2{b=a*2}");
        due("once 0 circuit", desk.once(0, true), true);
        due("get 0", desk.get(0), 1);
        due("once 0 code", desk.once(0, false), true);
        due("get 0", desk.get(0), 2);
        due("get 1", desk.get(1), 0);
        due("once 1", desk.once(1, false), true);
        due("get 1", desk.get(1), 4);
        due("once 2", desk.once(2, false), false);
        due("trouble", desk.trouble(), 1);
        due("once -1", desk.once(-1, true), false);
        due("trouble", desk.trouble(), 1);
        due("once 1", desk.once(1, true), true);
        due("trouble", desk.trouble(), 0);
        HalfGates none = new HalfGates();
        due("once without a program", none.once(0, true), false);
        due("trouble", none.trouble(), 4);
    }

    private static void changesAndStill() {
        HalfGates desk = Check.desk("x 9{a=a+1;if h b=a}y 2{c=c&c}");
        desk.put(0, 7);
        dueTrouble(desk, "changes 0 0", desk.changes(0, 0), 15, 0);
        due("changes 0 1", desk.changes(0, 1), 0);
        desk.put(7, 1);
        due("changes 0 1 with h", desk.changes(0, 1), 8);
        due("get 0", desk.get(0), 7);
        due("get 1", desk.get(1), 0);
        dueTrouble(desk, "still 0", desk.still(0), 0, 0);
        dueTrouble(desk, "still 1", desk.still(1), 1, 0);
        due("get 0", desk.get(0), 7);
        desk.put(7, 0);
        due("still 0, a alone changing", desk.still(0), 0);
        due("still of h alone", Check.desk("x 1{h=1}").still(0), 0);
        dueTrouble(desk, "changes 2 0", desk.changes(2, 0), -1, 1);
        dueTrouble(desk, "changes -1 0", desk.changes(-1, 0), -1, 1);
        dueTrouble(desk, "changes 0 8", desk.changes(0, 8), -1, 1);
        dueTrouble(desk, "changes 0 -1", desk.changes(0, -1), -1, 1);
        dueTrouble(desk, "still 2", desk.still(2), -1, 1);
        dueTrouble(desk, "still -1", desk.still(-1), -1, 1);
        HalfGates none = new HalfGates();
        dueTrouble(none, "changes without a program", none.changes(9, 9), -1, 4);
        none.put(0, 0);
        dueTrouble(none, "still without a program", none.still(9), -1, 4);
    }

    private static void name() {
        HalfGates desk = Check.desk("abcdefgh 1{a=1}if 2{b=1}");
        for (int i = 0; i < 8; i++) {
            due("name 0 " + i, Check.nameByte(desk, 0, i), 'a' + i);
        }
        due("name 0 8", Check.nameByte(desk, 0, 8), -1);
        due("name 1 0", Check.nameByte(desk, 1, 0), 'i');
        due("name 1 1", Check.nameByte(desk, 1, 1), 'f');
        due("name 1 2", Check.nameByte(desk, 1, 2), -1);
        due("name 1 -1", Check.nameByte(desk, 1, -1), -1);
        due("name 2 0", Check.nameByte(desk, 2, 0), -1);
        due("name -1 0", Check.nameByte(desk, -1, 0), -1);
        due("name without a program", Check.nameByte(new HalfGates(), 0, 0), -1);
    }

    private static void count() {
        HalfGates desk = Check.desk(THREE);
        desk.set(12, 34, 56);
        desk.feed(0, 0, 0, 0, 0);
        int[] want = {12, 34, 56, 3, 20, 5};
        for (int what = 0; what < 6; what++) {
            due("count " + what, desk.count(what), want[what]);
        }
        due("count 6", desk.count(6), -1);
        due("count -1", desk.count(-1), -1);
    }

    private static void trouble() {
        HalfGates desk = Check.desk(THREE);
        desk.put(8, 0);
        due("trouble 1", desk.trouble(), 1);
        due("trouble tells it again", desk.trouble(), 1);
        desk.get(0);
        desk.count(0);
        desk.block(0, 0);
        desk.edge(0);
        desk.fault();
        desk.where();
        Check.nameByte(desk, 9, 9);
        due("trouble, no call since that may be refused", desk.trouble(), 1);
        desk.fewest(0);
        due("trouble, -2 being no refusal", desk.trouble(), 0);
    }
}
