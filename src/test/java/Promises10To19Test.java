/** Promises 10 to 19, cuts: ticks, gates, moved, room, moves, quickest, fewest, turn, edges, edge. */
public final class Promises10To19Test {
    private static final int LEAST = -2147483648;
    private static final int MOST = 2147483647;
    private static final String THREE = "one 2{a=b+c;if a d=~b-1;a=d}two 3{e=a*7;e=e}tri 1{h=9}";
    private static final int[] TICKS = {45, 40, 25, 17, 49, 44, 29, 21};

    public static void main(String[] args) {
        Sentences.test(Promises10To19Test.class);
    }

    private static void due(String call, long got, long want) {
        Check.due(call, got, want);
    }

    /** A CUT's call with one more argument, the CUT. */
    private interface OfCut {
        int on(HalfGates desk, int cut);
    }

    /** Each CUT of THREE, on a desk where nothing else has been asked. */
    private static void dueOfCuts(String call, OfCut made, int[] want) {
        for (int cut = 0; cut < want.length; cut++) {
            int bits = cut;
            Check.answered(Check.desk(THREE), call + " " + cut, d -> made.on(d, bits), want[cut]);
        }
    }

    /** 4 comes ahead of 2; 2 for a bit of a BLOCK that there isn't. */
    private static void dueRefusals(String call, OfCut made, int answer) {
        for (int cut : new int[] {0, 1, -1, 4096, LEAST, MOST}) {
            Check.refused(new HalfGates(), call + " " + cut + " without a program", d -> made.on(d, cut), answer, 4);
        }
        for (int cut : new int[] {-1, 8, 9, 4096, 1 << 30, LEAST, LEAST + 1, MOST}) {
            Check.refused(Check.desk(THREE), call + " " + cut, d -> made.on(d, cut), answer, 2);
        }
        HalfGates one = Check.desk("x1{a=1}");
        Check.refused(one, call + " 2 of one block", d -> made.on(d, 2), answer, 2);
        HalfGates twelve = Check.desk(Check.blocks(12));
        due(call + " 4096 of twelve", made.on(twelve, 4096), answer);
        due("its trouble", twelve.trouble(), 2);
        made.on(twelve, 4095);
        due("trouble of " + call + " 4095 of twelve", twelve.trouble(), 0);
    }

    @Says(at = "Promise 10", words = "TICKS of a CUT (bits of BLOCKS that there are):")
    static void ticksOfACut() {
        dueOfCuts("ticks", HalfGates::ticks, TICKS);
        due("ticks of twelve", Check.desk(Check.blocks(12)).ticks(4095), 24 + 3);
    }

    @Says(at = "Promise 10", words = "NONE: 4; 2.")
    static void ticksNone() {
        dueRefusals("ticks", HalfGates::ticks, -1);
    }

    @Says(at = "Promise 11", words = "GATES of a CUT;")
    static void gatesOfACut() {
        dueOfCuts("gates", HalfGates::gates, new int[] {0, 128, 384, 512, 0, 128, 384, 512});
    }

    @Says(at = "Promise 11", words = "NONE: 4; 2.")
    static void gatesNone() {
        dueRefusals("gates", HalfGates::gates, -1);
    }

    @Says(at = "Promise 12", words = "NUMBERS MOVED by a CUT in all;")
    static void movedByACutInAll() {
        dueOfCuts("moved", HalfGates::moved, new int[] {0, 2, 2, 3, 1, 3, 3, 4});
        // the same NUMBER counts each time
        due("moved to and fro", Check.desk("p1{a=a+1}q1{a=a+1}r1{a=a+1}s1{a=a+1}").moved(0b0101), 3);
        due("moved to and fro, the others", Check.desk("p1{a=a+1}q1{a=a+1}r1{a=a+1}s1{a=a+1}").moved(0b1010), 4);
    }

    @Says(at = "Promise 12", words = "NONE: 4; 2.")
    static void movedNone() {
        dueRefusals("moved", HalfGates::moved, -1);
    }

    @Says(at = "Promise 13", words = "ROOM of a CUT;")
    static void roomOfACut() {
        dueOfCuts("room", HalfGates::room, new int[] {0, 1, 1, 3, 1, 2, 2, 4});
    }

    @Says(at = "Promise 13", words = "NONE: 4; 2.")
    static void roomNone() {
        dueRefusals("room", HalfGates::room, -1);
    }

    @Says(at = "Promise 14", words = "Which NUMBERS a CUT has MOVED ahead of BLOCK b (b: how many there are: at the end), as bits;")
    static void movesAheadOfABlockAndAtTheEnd() {
        int[][] want = {{0, 0, 0, 0}, {0, 1, 0, 8}, {0, 1, 0, 16}, {0, 0, 0, 25},
            {0, 0, 0, 128}, {0, 1, 0, 136}, {0, 1, 0, 144}, {0, 0, 0, 153}};
        for (int b = 0; b < 4; b++) {
            int at = b;
            int[] column = new int[8];
            for (int cut = 0; cut < 8; cut++) {
                column[cut] = want[cut][b];
            }
            dueOfCuts("moves ahead of " + b, (d, cut) -> d.moves(cut, at), column);
        }
        HalfGates twelve = Check.desk(Check.blocks(12));
        due("moves of twelve ahead of the last", twelve.moves(4095, 11), 0);
        due("moves of twelve at the end", twelve.moves(4095, 12), 1);
        due("moves of twelve behind the end", twelve.moves(4095, 13), -1);
    }

    @Says(at = "Promise 14", words = "NONE: 4; 2; 1.")
    static void movesNone() {
        dueRefusals("moves", (d, cut) -> d.moves(cut, 0), -1);
        // a wrong CUT comes ahead of a BLOCK that there isn't
        dueRefusals("moves of no block", (d, cut) -> cut == 4095 ? d.moves(cut, 0) : d.moves(cut, 99), -1);
        for (int b : new int[] {-1, 4, 5, 12, 13, LEAST, MOST}) {
            Check.refused(Check.desk(THREE), "moves 7 " + b, d -> d.moves(7, b), -1, 1);
        }
    }

    @Says(at = "Promise 15", words = "QUICKEST within so many GATES (0 .. 1,000,000): its bits;")
    static void quickestWithin0To1000000() {
        int[][] want = {{0, 0}, {1, 0}, {127, 0}, {128, 1}, {383, 1}, {384, 2}, {511, 2}, {512, 3}, {999999, 3}, {1000000, 3}};
        for (int[] w : want) {
            Check.answered(Check.desk(THREE), "quickest " + w[0], d -> d.quickest(w[0]), w[1]);
        }
        // 0 GATES: circuits that have none are made where they are quicker
        HalfGates free = Check.desk("x1{a=1;b=2;c=3}y1{a=a+1}");
        free.set(8, 40, 0);
        due("quickest 0", free.quickest(0), 1);
    }

    @Says(at = "Promise 15", words = "NONE: 4; 2.")
    static void quickestNone() {
        for (int gates : new int[] {0, -1, 1000001}) {
            Check.refused(new HalfGates(), "quickest " + gates + " without a program", d -> d.quickest(gates), -1, 4);
        }
        for (int gates : new int[] {-1, 1000001, LEAST, MOST}) {
            Check.refused(Check.desk(THREE), "quickest " + gates, d -> d.quickest(gates), -1, 2);
        }
    }

    @Says(at = "Promise 16", words = "The fewest GATES by which the TICKS can be no more than so many;")
    static void fewestGatesByWhichTheTicksCanBeNoMore() {
        int[][] want = {{MOST, 0}, {1000001, 0}, {46, 0}, {45, 0}, {44, 128}, {40, 128}, {39, 384}, {25, 384}, {24, 512}, {17, 512}};
        for (int[] w : want) {
            Check.answered(Check.desk(THREE), "fewest " + w[0], d -> d.fewest(w[0]), w[1]);
        }
    }

    @Says(at = "Promise 16", words = "-2 if they can't.")
    static void fewestMinus2IfTheyCant() {
        for (int ticks : new int[] {16, 1, 0}) {
            Check.answered(Check.desk(THREE), "fewest " + ticks, d -> d.fewest(ticks), -2);
        }
        due("fewest 1 of one tick", Check.desk("x1{a=1}").fewest(1), 0);
        due("fewest 0 of one tick", Check.desk("x1{a=1}").fewest(0), -2);
        // whatever a former PROGRAM could
        HalfGates desk = Check.desk("x2{a=a-1}y2{b=b+1}");
        desk.set(8, 40, 0);
        due("fewest 7 ahead", desk.fewest(7), 40);
        Check.tell(desk, "x50{a=1}");
        due("fewest 50 behind", desk.fewest(50), 0);
        due("fewest 49 behind", desk.fewest(49), -2);
        due("fewest 7 behind", desk.fewest(7), -2);
    }

    @Says(at = "Promise 16", words = "NONE: 4; 2 (below 0).")
    static void fewestNone() {
        for (int ticks : new int[] {0, -1, MOST}) {
            Check.refused(new HalfGates(), "fewest " + ticks + " without a program", d -> d.fewest(ticks), -1, 4);
        }
        for (int ticks : new int[] {-1, -2, LEAST}) {
            Check.refused(Check.desk(THREE), "fewest " + ticks, d -> d.fewest(ticks), -1, 2);
        }
    }

    @Says(at = "Promise 17", words = {"By how many TICKS a BLOCK alone being turned about (code, circuit) would make a CUT slower",
        "(below 0: quicker)."})
    static void turnSlowerAndQuicker() {
        for (int b = 0; b < 3; b++) {
            int which = b;
            int[] want = new int[8];
            for (int cut = 0; cut < 8; cut++) {
                want[cut] = TICKS[cut ^ 1 << b] - TICKS[cut];
            }
            dueOfCuts("turn of " + b, (d, cut) -> d.turn(cut, which), want);
        }
        due("slower", Check.desk(THREE).turn(3, 1), 23);
        due("quicker", Check.desk(THREE).turn(0, 1), -20);
        HalfGates same = Check.desk("x1{a=1;b=2}");
        same.set(8, 40, 0);
        due("neither", same.turn(0, 0), 0);
        // -1 and -2 are answers here
        HalfGates quick = Check.desk("x1{a=1;b=2;c=3}y1{a=1;b=2;c=3;d=4}");
        quick.set(8, 40, 0);
        Check.answered(quick, "quicker by 1", d -> d.turn(0, 0), -1);
        Check.answered(quick, "quicker by 2", d -> d.turn(0, 1), -2);
        due("the last of twelve", Check.desk(Check.blocks(12)).turn(4095, 11), -4);
    }

    @Says(at = "Promise 17", words = "-2^31: 4; 2; 1.")
    static void turnRefused() {
        dueRefusals("turn", (d, cut) -> d.turn(cut, 0), LEAST);
        dueRefusals("turn of no block", (d, cut) -> cut == 4095 ? d.turn(cut, 0) : d.turn(cut, 99), LEAST);
        for (int b : new int[] {-1, 3, 4, 12, 32, LEAST, MOST}) {
            Check.refused(Check.desk(THREE), "turn 7 " + b, d -> d.turn(7, b), LEAST, 1);
        }
    }

    /** A desk without cost of MOVE, and the edges that are due. */
    private static void dueEdges(String text, int... want) {
        HalfGates desk = Check.desk(text);
        desk.set(8, 40, 0);
        desk.put(8, 8);
        due("edges of " + text, desk.edges(), want.length);
        due("trouble of edges", desk.trouble(), 0);
        for (int i = 0; i < want.length; i++) {
            due("edge " + i + " of " + text, desk.edge(i), want[i]);
        }
        due("edge behind the last of " + text, desk.edge(want.length), -1);
        due("edge -1 of " + text, desk.edge(-1), -1);
    }

    @Says(at = "Promise 18", words = "How many CUTS there are beside which no other one has as few TICKS and as few GATES, and less of one")
    static void edgesBesideWhichNoOtherIsBetter() {
        // x 4 or 3 ticks (48 gates), y 4 or 3 (40): 1 is as quick as 2 with more gates
        dueEdges("x2{a=a-1}y2{b=b+1}", 0, 2, 3);
        // x 3 ticks less for 48 gates, y 1 less for 40: all four
        dueEdges("x4{a=a-1}y2{b=b+1}", 0, 2, 1, 3);
        // as many gates, but quicker by later bits, by earlier ones
        dueEdges("x2{a=a+1}y3{b=b+1}", 0, 2, 3);
        dueEdges("x3{a=a+1}y2{b=b+1}", 0, 1, 3);
        dueEdges("x2{a=a+1}y3{b=b+1}z4{c=c+1}", 0, 4, 6, 7);
        // as many gates (none), but quicker: the circuit alone
        dueEdges("x1{a=1;b=2;c=3}", 1);
        // as quick, but fewer gates: the code alone
        dueEdges("x1{a=a+1}", 0);
        // slower as a circuit
        dueEdges("x1{a=1}", 0);
        // both less
        dueEdges("x1{a=1;b=2;c=3}y1{a=a+1}", 1);
        // dear in gates and little quicker, beside a cheap one that is much so
        dueEdges("x1{a=a*a}y9{b=b+b+b}", 0, 2, 3);
        // the most there can be of twelve alike, and of twelve unlike by twos
        StringBuilder alike = new StringBuilder();
        for (char name = 'a'; name < 'm'; name++) {
            alike.append(name).append("2{a=a+1}");
        }
        dueEdges(alike.toString(), 0, 1, 3, 7, 15, 31, 63, 127, 255, 511, 1023, 2047, 4095);
    }

    /**
     * Twelve BLOCKS: at WIDTH 16 and PER 1,000, without cost of MOVE, each has more GATES, and spares more
     * TICKS as a circuit, than all ahead of it together. So no CUT is better than another: all 4,096 are edges.
     * By sixteens GATES are 1, 2, 4, 10, 18, 36, 96, 192, 384, 768, 1536, 3072; spared TICKS are
     * 1, 3, 7, 13, 26, 53, 111, 223, 447, 895, 1798, 3604.
     */
    private static final String[] GROWING = {"a2{a=~b}", "b2{a=~~b}", "c2{a=~~~~b}", "d7{a=b+c+d}", "e9{a=b-c-d-e}",
        "f9{a=b-b-b-b-b-b-b}", "g7{a=b*c}", "h7{a=b*c*d}", "i7{a=b*b*b*b*b}", "j7{a=b" + "*b".repeat(8) + "}",
        "k7{a=b" + "*b".repeat(8) + ";c=b" + "*b".repeat(8) + "}",
        "l7{a=b" + "*b".repeat(8) + ";c=b" + "*b".repeat(8) + ";d=b" + "*b".repeat(8) + ";e=b" + "*b".repeat(8) + "}"};

    private static HalfGates growing(boolean backwards) {
        StringBuilder text = new StringBuilder();
        for (int b = 0; b < 12; b++) {
            text.append(GROWING[backwards ? 11 - b : b]);
        }
        HalfGates desk = Check.desk(text.toString());
        desk.set(16, 1000, 0);
        return desk;
    }

    /** The bits of a CUT the other way round. */
    private static int turned(int cut) {
        return Integer.reverse(cut) >>> 20;
    }

    @Says(at = "Promise 18", words = "How many CUTS there are beside which no other one has as few TICKS and as few GATES, and less of one")
    static void edgesBeingAllTheCutsOfTwelveBlocks() {
        HalfGates desk = growing(false);
        due("edges", desk.edges(), 4096);
        HalfGates back = growing(true);
        due("edges, backwards", back.edges(), 4096);
        for (int i = 0; i < 4096; i += i < 8 || i > 4080 ? 1 : 17) {
            due("edge " + i, desk.edge(i), i);
            due("edge " + i + ", backwards", back.edge(i), turned(i));
        }
        due("edge 4095", desk.edge(4095), 4095);
        due("edge 4096", desk.edge(4096), -1);
        due("edge 4096, backwards", back.edge(4096), -1);
        due("edge -1", desk.edge(-1), -1);
    }

    @Says(at = "Promise 15", words = "QUICKEST within so many GATES (0 .. 1,000,000): its bits;")
    static void quickestOfAllTheCutsOfTwelveBlocks() {
        int[][] want = {{0, 0}, {15, 0}, {16, 1}, {31, 1}, {32, 2}, {47, 2}, {48, 3}, {63, 3}, {64, 4}, {112, 7}, {159, 7}, {160, 8},
            {49151, 2047}, {49152, 2048}, {97903, 4094}, {97904, 4095}, {1000000, 4095}};
        HalfGates desk = growing(false);
        HalfGates back = growing(true);
        for (int[] w : want) {
            due("quickest " + w[0], desk.quickest(w[0]), w[1]);
            due("quickest " + w[0] + ", backwards", back.quickest(w[0]), turned(w[1]));
        }
        int code = desk.ticks(0);
        due("the most that can be spared", code - desk.ticks(4095), 7181);
        int[][] fewest = {{0, 0}, {1, 16}, {2, 32}, {3, 32}, {4, 48}, {5, 64}, {7, 64}, {8, 80}, {3577, 48752}, {3578, 49152}, {3604, 49152},
            {3605, 49168}, {7180, 97904 - 16}, {7181, 97904}, {7182, -2}};
        for (int[] f : fewest) {
            due("fewest with " + f[0] + " spared", desk.fewest(code - f[0]), f[1]);
            due("fewest with " + f[0] + " spared, backwards", back.fewest(code - f[0]), f[1]);
        }
    }

    @Says(at = "Promise 18", words = "(of those with both alike the one with the least bits alone);")
    static void edgesOfBothAlikeTheLeastBitsAlone() {
        dueEdges("x2{a=a+1}y2{b=b+1}", 0, 1, 3);
        dueEdges("x2{a=a+1}y2{b=b+1}z2{c=c+1}", 0, 1, 3, 7);
        dueEdges("x1{a=1;b=2}", 0);
        dueEdges("x1{a=1;b=2}y1{a=1;b=2}", 0);
        dueEdges("x1{a=1;b=2}y2{b=b+1}", 0, 2);
        // whatever was an edge of a former PROGRAM
        HalfGates desk = Check.desk("x1{a=1;b=2;c=3}");
        desk.set(8, 40, 0);
        due("edges ahead", desk.edges(), 1);
        due("edge 0 ahead", desk.edge(0), 1);
        Check.tell(desk, "x1{a=1;b=2}");
        due("edges behind", desk.edges(), 1);
        due("edge 0 behind", desk.edge(0), 0);
        due("quickest behind", desk.quickest(1000000), 0);
    }

    @Says(at = "Promise 18", words = "NONE (4).")
    static void edgesNone() {
        HalfGates none = new HalfGates();
        Check.refused(none, "edges without a program", d -> d.edges(), -1, 4);
        Check.tell(none, "x1{a=z}");
        Check.refused(none, "edges behind a FAULT alone", d -> d.edges(), -1, 4);
        Check.tell(none, "x1{a=1}");
        due("edges with one", none.edges(), 1);
    }

    @Says(at = "Promise 19", words = "The bits of the i-th of these in the latest edges() that told a number,")
    static void edgeOfTheLatestEdges() {
        HalfGates desk = Check.desk(THREE);
        Check.told(desk, "edge ahead of edges", d -> d.edge(0), -1);
        desk.quickest(1000);
        desk.fewest(20);
        Check.told(desk, "edge, quickest and fewest being no edges", d -> d.edge(0), -1);
        due("edges", desk.edges(), 4);
        // settings and programs that come leave what the latest edges() told
        desk.set(8, 40, 100);
        due("edge 3 behind set", desk.edge(3), 3);
        Check.tell(desk, "x1{a=1}");
        due("edge 3 behind program", desk.edge(3), 3);
        Check.tell(desk, "x1{a=z}");
        desk.quickest(1000000);
        desk.fewest(0);
        desk.run(0);
        due("edge 3 behind other calls", desk.edge(3), 3);
        due("edge 4", desk.edge(4), -1);
        due("edges anew", desk.edges(), 1);
        due("edge 0", desk.edge(0), 0);
        due("edge 1", desk.edge(1), -1);
    }

    @Says(at = "Promise 19", words = "by GATES, fewest first;")
    static void edgeByGatesFewestFirst() {
        HalfGates desk = Check.desk("x4{a=a-1}y2{b=b+1}");
        desk.set(8, 40, 0);
        due("edges", desk.edges(), 4);
        int[] bits = {0, 2, 1, 3};
        int[] gates = {0, 40, 48, 88};
        int[] ticks = {12, 11, 9, 8};
        for (int i = 0; i < 4; i++) {
            due("edge " + i, desk.edge(i), bits[i]);
            due("its gates", desk.gates(bits[i]), gates[i]);
            due("its ticks", desk.ticks(bits[i]), ticks[i]);
        }
    }

    @Says(at = "Promise 19", words = "NONE.")
    static void edgeNone() {
        HalfGates desk = Check.desk(THREE);
        desk.edges();
        for (int i : new int[] {-1, 4, 5, 4096, LEAST, MOST}) {
            due("edge " + i, desk.edge(i), -1);
            due("trouble, edge being none that may be refused", desk.trouble(), 0);
        }
        HalfGates none = new HalfGates();
        none.edges();
        Check.told(none, "edge behind edges refused", d -> d.edge(0), -1);
        due("trouble still", none.trouble(), 4);
    }
}
