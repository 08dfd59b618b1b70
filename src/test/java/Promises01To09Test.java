/** Promises 1 to 9: the constructor, set, feed, program, fault, where, put, get, block. */
public final class Promises01To09Test {
    private static final int LEAST = -2147483648;
    private static final int MOST = 2147483647;
    /** Width 8, per 40: the rows of block() are in promise 9's test. */
    private static final String THREE = "one 2{a=b+c;if a d=~b-1;a=d}two 3{e=a*7;e=e}tri 1{h=9}";

    public static void main(String[] args) {
        Sentences.test(Promises01To09Test.class);
    }

    private static void due(String call, long got, long want) {
        Check.due(call, got, want);
    }

    private static long set(HalfGates desk, int width, int per, int move) {
        return desk.set(width, per, move) ? 1 : 0;
    }

    // ---- what it is

    @Says(at = "What it is", words = "An object is used for at most 512 calls after it has been made")
    static void the512thCallIsAnsweredAsTheFirst() {
        StringBuilder alike = new StringBuilder();
        for (char name = 'a'; name < 'm'; name++) {
            alike.append(name).append("50{a=a*a*b*c*d}");
        }
        HalfGates desk = new HalfGates();
        int calls = Check.feeds(alike.toString().getBytes(java.nio.charset.StandardCharsets.ISO_8859_1)).length + 1;
        due("program", Check.tell(desk, alike.toString()), 12);
        // each setting has all CUTS reckoned anew
        while (calls + 3 < 512) {
            int width = 4 + calls % 13;
            desk.set(width, 1000, 0);
            due("edges", desk.edges(), 13);
            due("run", desk.run(4095), 12 * 51);
            calls += 3;
        }
        while (calls < 511) {
            desk.put(0, calls);
            calls++;
        }
        due("the 512th call", desk.quickest(1000000), 4095);
    }

    // ---- promise 1

    @Says(at = "Promise 1", words = "WIDTH 8, all NUMBERS 0, no PROGRAM.")
    static void aNewObject() {
        HalfGates desk = new HalfGates();
        due("WIDTH", desk.count(0), 8);
        due("BLOCKS", desk.count(3), 0);
        due("bytes of THE TAPE", desk.count(4), 0);
        due("OPS", desk.count(5), 0);
        for (int k = 0; k < 8; k++) {
            due("NUMBER " + k, desk.get(k), 0);
        }
        due("fault", desk.fault(), 0);
        due("where", desk.where(), -1);
        due("trouble", desk.trouble(), 0);
        due("block", desk.block(0, 0), -1);
        due("edge", desk.edge(0), -1);
        due("ticks", desk.ticks(0), -1);
        // WIDTH 8 is what NUMBERS are taken by
        desk.put(0, 256 + 255);
        due("511 at first", desk.get(0), 255);
        // two objects share nothing
        HalfGates other = Check.desk(THREE);
        other.put(0, 9);
        other.set(4, 1, 0);
        due("BLOCKS of the first", desk.count(3), 0);
        due("WIDTH of the first", desk.count(0), 8);
        due("a of the first", desk.get(0), 255);
    }

    // ---- promise 2

    @Says(at = "Promise 2", words = "WIDTH, PER, MOVE become it;")
    static void setWidthPerMoveBecomeIt() {
        HalfGates desk = Check.desk(THREE);
        int[][] good = {{4, 1, 0}, {16, 1000, 100}, {4, 1000, 100}, {16, 1, 0}, {8, 40, 3}};
        for (int[] g : good) {
            due("set", set(desk, g[0], g[1], g[2]), 1);
            for (int what = 0; what < 3; what++) {
                due("count " + what, desk.count(what), g[what]);
            }
        }
        // what a BLOCK needs, and all CUTS, follow at once
        due("edges ahead", desk.edges(), 4);
        due("quickest ahead", desk.quickest(512), 3);
        desk.set(16, 40, 3);
        due("code's ticks", desk.block(1, 3), 54);
        due("gates", desk.block(1, 4), 1536);
        due("depth", desk.block(1, 5), 64);
        due("circuit's ticks", desk.block(1, 6), 7);
        due("quickest within the gates there were", desk.quickest(512), 1);
        desk.set(8, 32, 3);
        due("circuit's ticks by 32", desk.block(1, 6), 4);
        desk.set(8, 31, 3);
        due("circuit's ticks by 31", desk.block(1, 6), 7);
        desk.set(8, 40, 100);
        due("ticks 3 with dear moves", desk.ticks(3), 308);
        due("quickest with dear moves", desk.quickest(1000000), 0);
        due("fewest with dear moves", desk.fewest(17), -2);
        desk.set(8, 40, 0);
        due("fewest without", desk.fewest(17), 512);
    }

    @Says(at = "Promise 2", words = "NUMBERS are taken by the new WIDTH: true;")
    static void setNumbersAreTakenByTheNewWidth() {
        HalfGates desk = new HalfGates();
        desk.set(16, 40, 3);
        for (int k = 0; k < 8; k++) {
            desk.put(k, 65535 - k);
        }
        for (int w = 15; w >= 4; w--) {
            due("set", set(desk, w, 40, 3), 1);
            for (int k = 0; k < 8; k++) {
                due("NUMBER " + k + " at " + w, desk.get(k), (1 << w) - 1 - k);
            }
        }
        // what is gone is gone
        due("set wider", set(desk, 16, 40, 3), 1);
        for (int k = 0; k < 8; k++) {
            due("NUMBER " + k + " at 16 again", desk.get(k), 15 - k);
        }
        desk.put(0, 16);
        due("set", set(desk, 4, 40, 3), 1);
        due("16 at 4", desk.get(0), 0);
    }

    @Says(at = "Promise 2", words = "false (2).")
    static void setFalseLeavesAllAsItWas() {
        int[][] wrong = {{3, 40, 3}, {17, 40, 3}, {8, 0, 3}, {8, 1001, 3}, {8, 40, -1}, {8, 40, 101},
            {4, 0, 3}, {4, 1, 101}, {4, 1001, 100}, {3, 1, 0}, {LEAST, LEAST, LEAST}, {MOST, MOST, MOST}};
        for (int[] w : wrong) {
            String call = "set " + w[0] + " " + w[1] + " " + w[2];
            HalfGates one = Check.desk(THREE);
            one.put(0, 255);
            one.edges();
            Check.refused(one, call, d -> set(d, w[0], w[1], w[2]), 0, 2);
            due("ticks behind " + call, one.ticks(3), 17);
        }
    }

    // ---- promise 3

    @Says(at = "Promise 3", words = "Twenty bytes come behind THE TAPE, of each number the highest first: how many it has;")
    static void feedTwentyBytesTheHighestFirst() {
        // "abcdefgh 1{h=12+345}", then "ab  2{a=h}" with blanks: 41 bytes of three feeds
        HalfGates desk = new HalfGates();
        due("feed", desk.feed(0x61626364, 0x65666768, 0x20317B68, 0x3D31322B, 0x3334357D), 20);
        due("feed behind it", desk.feed(0x61622020, 0x327B613D, 0x687D2020, 0x20202020, 0x20202020), 40);
        due("feed behind that", desk.feed(0x0A000000, 0, 0, 0, 0), 60);
        due("count 4", desk.count(4), 60);
        due("program", desk.program(41), 2);
        due("name 0 0", desk.name(0, 0), 'a');
        due("name 0 7", desk.name(0, 7), 'h');
        due("name 1 1", desk.name(1, 1), 'b');
        due("often", desk.block(1, 0), 2);
        desk.run(0);
        due("a", desk.get(0), 357 - 256);
        // each byte at each place, those from 128 on and below 0 too: the first that isn't a blank is the FAULT
        for (int at = 0; at < 20; at++) {
            for (int c : new int[] {0, 127, 128, 200, 255}) {
                int[] five = {0x20202020, 0x20202020, 0x20202020, 0x20202020, 0x20202020};
                int shift = 24 - at % 4 * 8;
                five[at / 4] = five[at / 4] & ~(255 << shift) | c << shift;
                HalfGates one = new HalfGates();
                due("feed", one.feed(five[0], five[1], five[2], five[3], five[4]), 20);
                due("program", one.program(20), -1);
                due("where of byte " + c + " at " + at, one.where(), at);
            }
        }
    }

    @Says(at = "Promise 3", words = "NONE, and none comes, if there would be more than 600.")
    static void feedNoneComesIfThereWouldBeMoreThan600() {
        HalfGates desk = new HalfGates();
        String text = "x1{a=1}" + " ".repeat(592) + "\n";
        int n = Check.feed(desk, text);
        due("bytes", n, 600);
        due("count 4", desk.count(4), 600);
        Check.told(desk, "feed 31", d -> d.feed(-1, -1, -1, -1, -1), -1);
        Check.told(desk, "feed 32", d -> d.feed(0, 0, 0, 0, 0), -1);
        due("count 4 behind it", desk.count(4), 600);
        // the 600 are as they were
        due("program", desk.program(600), 1);
        due("feed of the tape being empty again", desk.feed(0, 0, 0, 0, 0), 20);
        HalfGates counted = new HalfGates();
        for (int i = 1; i <= 30; i++) {
            due("feed " + i, counted.feed(i, i, i, i, i), 20 * i);
        }
        due("feed 31", counted.feed(0, 0, 0, 0, 0), -1);
        // 580 and 20 are no more than 600
        due("program refused by 2", counted.program(601), -1);
        due("feed still", counted.feed(0, 0, 0, 0, 0), -1);
        due("program of none", counted.program(0), -1);
        due("feed anew", counted.feed(0, 0, 0, 0, 0), 20);
    }

    // ---- promise 4

    @Says(at = "Promise 4", words = "The first n bytes of THE TAPE (it is empty then) are the PROGRAM")
    static void programOfTheFirstNBytes() {
        // the bytes behind the first n are not read, and gone
        HalfGates desk = new HalfGates();
        Check.feed(desk, "x1{a=1}y2{b=2}zzz");
        due("program 7", desk.program(7), 1);
        due("tape behind it", desk.count(4), 0);
        due("program of what was left", desk.program(1), -1);
        due("trouble", desk.trouble(), 2);
        Check.feed(desk, "x1{a=1}y2{b=2}zzz");
        due("program 14", desk.program(14), 2);
        Check.feed(desk, "x1{a=1}y2{b=2}zzz");
        due("program 17", desk.program(17), -1);
        due("tape behind a FAULT", desk.count(4), 0);
        // within a WHOLE and a WORD
        Check.feed(desk, "x 12{a=1}");
        due("program 3", desk.program(3), -1);
        due("where, the end", desk.where(), 3);
        Check.feed(desk, "abcdefghi");
        due("program 8", desk.program(8), -1);
        due("where, eight letters being a WORD", desk.where(), 8);
        // all bytes that there are, and none
        Check.feed(desk, "x1{a=1}");
        due("program 20 of 20", desk.program(20), 1);
        due("program 0 of 0", desk.program(0), -1);
        due("trouble", desk.trouble(), 3);
    }

    @Says(at = "Promise 4", words = "(in place of the former one): how many BLOCKS.")
    static void programInPlaceOfTheFormerOne() {
        HalfGates desk = Check.desk(Check.blocks(12));
        due("blocks", desk.count(3), 12);
        due("the next has less", Check.tell(desk, THREE), 3);
        due("blocks", desk.count(3), 3);
        due("ops", desk.count(5), 5);
        Check.due("all of it", Snapshot.of(desk), Snapshot.of(Check.desk(THREE)));
        due("block 3", desk.block(3, 0), -1);
        due("name 3", Check.nameByte(desk, 3, 0), -1);
        due("ticks 8", desk.ticks(8), -1);
        due("ticks 7", desk.ticks(7), 21);
        due("name 0 3", Check.nameByte(desk, 0, 3), -1);
        due("the next has one", Check.tell(desk, "y 5{c=1}"), 1);
        Check.due("all of it", Snapshot.of(desk), Snapshot.of(Check.desk("y 5{c=1}")));
        due("ticks 1", desk.ticks(1), 6 + 3);
        due("name 0 1", Check.nameByte(desk, 0, 1), -1);
        due("the next has more again", Check.tell(desk, THREE), 3);
        Check.due("all of it", Snapshot.of(desk), Snapshot.of(Check.desk(THREE)));
        // NUMBERS and settings stay
        desk.put(3, 77);
        desk.set(9, 8, 7);
        Check.tell(desk, "x1{a=1}");
        due("d", desk.get(3), 77);
        due("WIDTH", desk.count(0), 9);
        due("PER", desk.count(1), 8);
        due("MOVE", desk.count(2), 7);
        // all CUTS are reckoned anew
        HalfGates quick = Check.desk("x1{a=1;b=1;c=1}");
        quick.set(8, 40, 0);
        due("quickest ahead", quick.quickest(0), 1);
        Check.tell(quick, "x1{a=1}");
        due("quickest behind", quick.quickest(0), 0);
    }

    @Says(at = "Promise 4", words = "NONE: 2 (THE TAPE stays);")
    static void programRefusedBy2TheTapeStays() {
        for (int n : new int[] {-1, 21, 600, 601, LEAST, MOST}) {
            HalfGates desk = Check.desk(THREE);
            due("feed", desk.feed(0x78203120, 0x7B613D31, 0x7D202020, 0x20202020, 0x20202020), 20);
            Check.refused(desk, "program " + n, d -> d.program(n), -1, 2);
            due("tape behind program " + n, desk.count(4), 20);
            due("program of what stayed", desk.program(9), 1);
        }
        HalfGates none = new HalfGates();
        Check.refused(none, "program 1 of an empty tape", d -> d.program(1), -1, 2);
        Check.refused(none, "program -1 of an empty tape", d -> d.program(-1), -1, 2);
        due("program 0 of an empty tape", none.program(0), -1);
        due("its trouble", none.trouble(), 3);
    }

    @Says(at = "Promise 4", words = "3 (the former one stays).")
    static void programRefusedBy3TheFormerOneStays() {
        String[] texts = {"", "q", "q 9{b=b*b;c=1}r 9{", "q 9{b=b*b}r 9{c=z}", "q 9{b=1}q", "q 9{b=b*b}r 51{",
            "q 9{b=((((((((("};
        for (String text : texts) {
            HalfGates desk = Check.desk(THREE);
            desk.edges();
            int fault = desk.fault();
            due("fault ahead", fault, 0);
            String before = Snapshot.of(desk);
            due("program", Check.tell(desk, text), -1);
            due("trouble", desk.trouble(), 3);
            String want = before.replace("fault 0", "fault " + desk.fault());
            Check.due("what a FAULT leaves", Snapshot.of(desk), want);
            due("ticks 3", desk.ticks(3), 17);
            due("quickest", desk.quickest(512), 3);
            desk.put(1, 5);
            desk.put(2, 6);
            due("run", desk.run(3), 17);
            due("e", desk.get(4), 207);
        }
    }

    // ---- promise 5

    @Says(at = "Promise 5", words = "The FAULT of the latest program() not refused by 2;")
    static void faultOfTheLatestProgramNotRefusedBy2() {
        String[] texts = {"x1{a=1", "x1{a=z}", "x1{a=1}x", "x0{a=1}", "x1{a=((((((((("};
        HalfGates desk = new HalfGates();
        for (int i = 0; i < 5; i++) {
            Check.tell(desk, texts[i]);
            due("fault", desk.fault(), i + 1);
            due("program refused by 2", desk.program(1), -1);
            due("program refused by 2", desk.program(-1), -1);
            due("fault behind it", desk.fault(), i + 1);
            desk.put(0, 1);
            desk.ticks(0);
            due("fault behind other calls", desk.fault(), i + 1);
            due("fault asked again", desk.fault(), i + 1);
        }
    }

    @Says(at = "Promise 5", words = "0 without one.")
    static void fault0WithoutOne() {
        HalfGates desk = new HalfGates();
        due("fault at first", desk.fault(), 0);
        desk.program(1);
        due("fault behind one refused by 2 alone", desk.fault(), 0);
        Check.tell(desk, "x1{a=1");
        due("fault of a bad one", desk.fault(), 1);
        Check.tell(desk, "x1{a=1}");
        due("fault of a good one", desk.fault(), 0);
        desk.program(1);
        due("fault behind one refused by 2", desk.fault(), 0);
    }

    // ---- promise 6

    @Says(at = "Promise 6", words = "Its place, if the latest call that may be refused was by 3;")
    static void whereIsThePlaceOfTheFault() {
        HalfGates desk = Check.desk("x1{a=1}");
        due("program", Check.tell(desk, "x1{a=z}"), -1);
        due("where", desk.where(), 5);
        due("where asked again", desk.where(), 5);
        // calls that can't be refused leave it
        Check.told(desk, "get", d -> d.get(8), -1);
        Check.told(desk, "block", d -> d.block(3, 9), -1);
        Check.told(desk, "edge", d -> d.edge(0), -1);
        Check.told(desk, "count", d -> d.count(6), -1);
        Check.told(desk, "name", d -> Check.nameByte(d, 3, 0), -1);
        desk.fault();
        desk.trouble();
        desk.feed(0, 0, 0, 0, 0);
        due("where behind them", desk.where(), 5);
        // the place may be 0, and 600
        due("program of no bytes", desk.program(0), -1);
        due("where", desk.where(), 0);
        due("program of 600 blanks", Check.tell(desk, " ".repeat(600)), -1);
        due("where", desk.where(), 600);
    }

    @Says(at = "Promise 6", words = "NONE else.")
    static void whereIsNoneElse() {
        due("where at first", new HalfGates().where(), -1);
        due("where of a good one", Check.desk(THREE).where(), -1);
        Check.Call[] calls = {d -> d.set(8, 40, 3) ? 1 : 0, d -> d.set(3, 40, 3) ? 1 : 0, d -> d.program(-1), d -> d.put(0, 0) ? 1 : 0,
            d -> d.put(8, 0) ? 1 : 0, d -> d.ticks(0), d -> d.ticks(8), d -> d.gates(0), d -> d.gates(8), d -> d.moved(0),
            d -> d.moved(8), d -> d.room(0), d -> d.room(8), d -> d.moves(0, 0), d -> d.moves(0, 4), d -> d.quickest(0),
            d -> d.quickest(-1), d -> d.fewest(0), d -> d.fewest(-1), d -> d.turn(0, 0), d -> d.turn(0, 3), d -> d.edges(),
            d -> d.run(0), d -> d.run(8), d -> d.once(0, true) ? 1 : 0, d -> d.once(3, true) ? 1 : 0, d -> d.changes(0, 0),
            d -> d.changes(0, 8), d -> d.still(0), d -> d.still(3)};
        for (int i = 0; i < calls.length; i++) {
            HalfGates desk = Check.desk(THREE);
            Check.tell(desk, "x1{a=z}");
            due("where ahead of call " + i, desk.where(), 5);
            calls[i].on(desk);
            due("where behind call " + i, desk.where(), -1);
            due("fault behind call " + i, desk.fault(), 2);
        }
    }

    // ---- promise 7

    @Says(at = "Promise 7", words = "NUMBER k becomes a value, taken by 2 to the WIDTH (of one below 0 its lowest bits): true;")
    static void putTakenByTwoToTheWidth() {
        int[] widths = {4, 8, 16};
        for (int w : widths) {
            int top = 1 << w;
            HalfGates desk = new HalfGates();
            desk.set(w, 40, 3);
            int[][] want = {{0, 0}, {1, 1}, {top - 1, top - 1}, {top, 0}, {top + 1, 1}, {2 * top - 1, top - 1}, {-1, top - 1},
                {-2, top - 2}, {1 - top, 1}, {-top, 0}, {-top - 1, top - 1}, {MOST, top - 1}, {LEAST, 0}, {LEAST + 1, 1}};
            for (int[] v : want) {
                due("put", desk.put(3, v[0]) ? 1 : 0, 1);
                due("trouble", desk.trouble(), 0);
                due(v[0] + " at " + w, desk.get(3), v[1]);
            }
        }
        // just that NUMBER
        for (int k = 0; k < 8; k++) {
            HalfGates desk = new HalfGates();
            desk.put(k, 99);
            for (int other = 0; other < 8; other++) {
                due("NUMBER " + other + " behind put " + k, desk.get(other), other == k ? 99 : 0);
            }
        }
    }

    @Says(at = "Promise 7", words = "false (1).")
    static void putFalseIfThereIsNoneSuch() {
        HalfGates desk = new HalfGates();
        desk.put(0, 5);
        desk.put(7, 6);
        for (int k : new int[] {-1, 8, 9, 256, LEAST, MOST}) {
            Check.refused(desk, "put " + k, d -> d.put(k, 99) ? 1 : 0, 0, 1);
        }
    }

    // ---- promise 8

    @Says(at = "Promise 8", words = "NUMBER k;")
    static void getNumberK() {
        HalfGates desk = new HalfGates();
        for (int k = 0; k < 8; k++) {
            desk.put(k, 250 - k);
        }
        for (int k = 0; k < 8; k++) {
            int want = 250 - k;
            int which = k;
            Check.told(desk, "get " + k, d -> d.get(which), want);
        }
    }

    @Says(at = "Promise 8", words = "NONE.")
    static void getNone() {
        HalfGates desk = new HalfGates();
        for (int k : new int[] {-1, 8, 9, LEAST, MOST}) {
            Check.told(desk, "get " + k, d -> d.get(k), -1);
        }
    }

    // ---- promise 9

    @Says(at = "Promise 9", words = {"Of BLOCK b what 0 how often it is done, 1 LINES, 2 OPS, 3 CODE's TICKS, 4 GATES, 5 DEPTH,",
        "6 the circuit's TICKS, 7 READS as bits, 8 WRITES as bits."})
    static void blockTellsWhatItNeeds() {
        HalfGates desk = Check.desk(THREE);
        int[][] want = {{2, 3, 4, 14, 128, 23, 3, 14, 9}, {3, 2, 1, 30, 384, 32, 4, 1, 16}, {1, 1, 0, 1, 0, 0, 2, 0, 128}};
        for (int b = 0; b < 3; b++) {
            for (int what = 0; what < 9; what++) {
                due("block " + b + " " + what, desk.block(b, what), want[b][what]);
            }
        }
        HalfGates most = Check.desk("x 50{a=b" + "*b".repeat(120) + "}");
        most.set(16, 1, 100);
        int[] largest = {50, 1, 120, 96050, 184320, 7680, 384001, 2, 1};
        for (int what = 0; what < 9; what++) {
            due("the most, " + what, most.block(0, what), largest[what]);
        }
    }

    @Says(at = "Promise 9", words = "NONE.")
    static void blockNone() {
        HalfGates desk = Check.desk(THREE);
        int[][] wrong = {{-1, 0}, {3, 0}, {3, 8}, {12, 0}, {0, -1}, {0, 9}, {2, 9}, {LEAST, 0}, {MOST, 0}, {0, LEAST}, {0, MOST}};
        for (int[] w : wrong) {
            due("block " + w[0] + " " + w[1], desk.block(w[0], w[1]), -1);
            due("trouble of it, being none that may be refused", desk.trouble(), 0);
        }
        HalfGates none = new HalfGates();
        Check.told(none, "block without a program", d -> d.block(0, 0), -1);
    }
}
