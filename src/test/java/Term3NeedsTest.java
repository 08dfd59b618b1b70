/** Term III: how a BLOCK is done, and what code and circuit need, at the least and the most WIDTH and PER. */
public final class Term3NeedsTest {
    private static final String[] SUMS = {"b+c", "b-c", "b*c", "b&c", "b|c", "b^c", "~b", "b<c"};

    public static void main(String[] args) {
        Sentences.test(Term3NeedsTest.class);
    }

    private static void due(String call, long got, long want) {
        Check.due(call, got, want);
    }

    /** What the one BLOCK with these LINES, done so often, has at WIDTH 8. */
    private static int of(String lines, int often, int what) {
        return Check.desk("x " + often + "{" + lines + "}").block(0, what);
    }

    private static int depth(String lines) {
        return of(lines, 1, 5);
    }

    private static int reads(String lines) {
        return of(lines, 1, 7);
    }

    @Says(at = "Term III", words = "A BLOCK is done so often: its LINES in order;")
    static void blockIsDoneSoOftenItsLinesInOrder() {
        for (int often : new int[] {1, 2, 50}) {
            HalfGates desk = Check.desk("x " + often + "{a=a+1;b=b+a}");
            desk.run(0);
            due("a", desk.get(0), often);
            due("b", desk.get(1), often * (often + 1) / 2 % 256);
        }
        HalfGates order = Check.desk("x1{a=1;b=a;a=2;c=a;a=3}");
        order.run(1);
        due("a", order.get(0), 3);
        due("b", order.get(1), 1);
        due("c", order.get(2), 2);
        // the first and the last of eight
        HalfGates eight = Check.desk("x1{a=1;b=a+1;c=b+1;d=c+1;e=d+1;f=e+1;g=f+1;h=g+1}");
        eight.run(0);
        for (int k = 0; k < 8; k++) {
            due("number " + k, eight.get(k), k + 1);
        }
    }

    @Says(at = "Term III", words = "a LINE with an if just if that NUMBER isn't 0.")
    static void lineWithAnIfJustIfThatNumberIsNot0() {
        for (int w : new int[] {4, 16}) {
            int[] values = {0, 1, 2, 1 << (w - 1), (1 << w) - 1, 1 << w};
            int[] done = {0, 1, 1, 1, 1, 0};
            for (int i = 0; i < values.length; i++) {
                HalfGates desk = Check.desk("x1{if h a=1}");
                desk.set(w, 40, 3);
                desk.put(7, values[i]);
                desk.once(0, true);
                due("if " + values[i] + " at " + w, desk.get(0), done[i]);
            }
        }
        // as it is when the LINE is met, and for that LINE alone
        HalfGates desk = Check.desk("x1{if a b=1;a=1;if a c=1;a=0;if a d=1;e=1}");
        desk.run(0);
        due("if ahead of the writing", desk.get(1), 0);
        due("if behind it", desk.get(2), 1);
        due("if behind the next", desk.get(3), 0);
        due("no if", desk.get(4), 1);
        // the number that is written may be the if's own
        HalfGates own = Check.desk("x 50{if a a=a-1;if a b=b+1}");
        own.put(0, 3);
        own.run(0);
        due("a counted down", own.get(0), 0);
        due("b counted up", own.get(1), 2);
    }

    @Says(at = "Term III", words = "CODE: TICKS of a LINE: 1, for each OP 1 more, but * : WIDTH.")
    static void codesTicksOfALine() {
        for (int w : new int[] {4, 8, 16}) {
            String[] lines = {"a=b", "a=5", "a=((b))", "a=b+c", "a=b-c", "a=b&c", "a=b|c", "a=b^c", "a=b<c", "a=~b", "if b a=c",
                "a=b*c", "a=b*c*d", "if b a=~c*d", "if b a=~~c<(d*e)"};
            int[] ticks = {1, 1, 1, 2, 2, 2, 2, 2, 2, 2, 2, 1 + w, 1 + 2 * w, 3 + w, 5 + w};
            for (int i = 0; i < lines.length; i++) {
                HalfGates desk = Check.desk("x1{" + lines[i] + "}");
                desk.set(w, 40, 3);
                due("code's ticks of " + lines[i] + " at " + w, desk.block(0, 3), ticks[i]);
            }
        }
        HalfGates most = Check.desk("x 50{a=b" + "*b".repeat(120) + "}");
        most.set(16, 1, 100);
        due("the most of code's ticks", most.block(0, 3), 96050);
        due("ticks 0 of it", most.ticks(0), 96050);
    }

    @Says(at = "Term III", words = "A BLOCK: so often as it is done all LINES together (also those whose if doesn't hold).")
    static void codesTicksOfABlock() {
        due("once", of("a=1;if b c=1", 1, 3), 3);
        due("50 times", of("a=1;if b c=1", 50, 3), 150);
        for (int b = 0; b < 2; b++) {
            HalfGates desk = Check.desk("x 50{a=1;if b c=1}");
            desk.put(1, b);
            due("run with b " + b, desk.run(0), 150);
        }
    }

    @Says(at = "Term III", words = {"CIRCUIT, W being the WIDTH: GATES of OPS: + 5 W, - 6 W, * 6 W W, & | ^ ~ W, < 6 W, if 4 W;",
        "together those of all LINES."})
    static void gatesOfOps() {
        int[][] gates = {{20, 24, 96, 4, 4, 4, 4, 24, 16}, {25, 30, 150, 5, 5, 5, 5, 30, 20},
            {40, 48, 384, 8, 8, 8, 8, 48, 32}, {80, 96, 1536, 16, 16, 16, 16, 96, 64}};
        int[] widths = {4, 5, 8, 16};
        for (int i = 0; i < widths.length; i++) {
            for (int s = 0; s < SUMS.length; s++) {
                HalfGates desk = Check.desk("x 9{a=" + SUMS[s] + "}y 9{if d a=" + SUMS[s] + "}");
                desk.set(widths[i], 40, 3);
                due("gates of " + SUMS[s] + " at " + widths[i], desk.block(0, 4), gates[i][s]);
                due("gates of if " + SUMS[s] + " at " + widths[i], desk.block(1, 4), gates[i][s] + gates[i][8]);
            }
        }
        due("no op, no gates", of("a=b;c=7", 50, 4), 0);
        due("of all lines, but not of all times", of("a=b+c;d=b-c;if a e=~b;d=b-c", 9, 4), 40 + 48 + 32 + 8 + 48);
        HalfGates most = Check.desk("x1{a=b" + "*b".repeat(120) + "}");
        most.set(16, 40, 3);
        due("the most gates", most.gates(1), 184320);
    }

    @Says(at = "Term III", words = "DEPTH of OPS: + 2 W, - 2 W + 1, * 4 W, & | ^ ~ 1, < 2 W + 2, if 5.")
    static void depthOfOps() {
        int[][] depths = {{8, 9, 16, 1, 1, 1, 1, 10}, {10, 11, 20, 1, 1, 1, 1, 12}, {16, 17, 32, 1, 1, 1, 1, 18},
            {32, 33, 64, 1, 1, 1, 1, 34}};
        int[] widths = {4, 5, 8, 16};
        for (int i = 0; i < widths.length; i++) {
            for (int s = 0; s < SUMS.length; s++) {
                HalfGates desk = Check.desk("x 9{a=" + SUMS[s] + "}y 9{if d a=" + SUMS[s] + "}");
                desk.set(widths[i], 40, 3);
                due("depth of " + SUMS[s] + " at " + widths[i], desk.block(0, 5), depths[i][s]);
                due("depth of if " + SUMS[s] + " at " + widths[i], desk.block(1, 5), depths[i][s] + 5);
            }
        }
        due("depth of if alone", depth("if d a=b"), 5);
    }

    @Says(at = "Term III", words = "A WHOLE, and each NUMBER as a time begins, has DEPTH 0;")
    static void wholesAndNumbersBeginWithDepth0() {
        due("a whole", depth("a=7"), 0);
        due("a number", depth("a=b"), 0);
        due("itself", depth("a=a"), 0);
        due("wholes beside a number", depth("a=7&b"), 1);
        due("wholes beside one another", depth("a=7&7"), 1);
        due("~ of a whole", depth("a=~7"), 1);
        due("a number written from a whole", depth("a=7;b=a&a"), 1);
        due("a whole within ( ) takes none of what is outside", depth("a=b*b;c=a*(b&7)"), 64);
        due("a number within ( ) takes none of what is outside", depth("a=b*b;c=a*(b&b)"), 64);
        // the next time begins with 0 again
        due("50 times itself", of("a=a*a", 50, 5), 32);
        due("50 times one by another", of("a=b*b;b=a*a", 50, 5), 64);
        // and so does the next BLOCK
        due("the next block", Check.desk("x1{a=b*b}y1{a=a&b}").block(1, 5), 1);
    }

    @Says(at = "Term III", words = "a PART or SUM that of its OP more than the deeper of its two (~ : of its one);")
    static void partOrSumIsDeeperByItsOp() {
        due("left deeper", depth("a=(b*c)&d"), 33);
        due("right deeper", depth("a=d&(b*c)"), 33);
        due("both, left deeper", depth("a=(b*c)&(b+c)"), 33);
        due("both, right deeper", depth("a=(b+c)&(b*c)"), 33);
        due("both alike", depth("a=(b+c)&(b+c)"), 17);
        due("from the left", depth("a=b+c+d"), 32);
        due("from the left by one", depth("a=b&c&d&e"), 3);
        due("to the right", depth("a=b&(c&(d&e))"), 3);
        due("in pairs", depth("a=(b&c)&(d&e)"), 2);
        due("~", depth("a=~(b*c)"), 33);
        due("~ ~", depth("a=~~b"), 2);
        due("~ of one of two", depth("a=~b&c"), 2);
        due("( ) alone", depth("a=((b))"), 0);
        due("the most of ~", depth("a=" + "~".repeat(120) + "b"), 120);
    }

    @Says(at = "Term III", words = "NUMBERS written have that of their SUM,")
    static void numbersWrittenHaveTheDepthOfTheirSum() {
        due("asked later", depth("a=b*c;d=a&b"), 33);
        due("asked by itself", depth("a=b*c;a=a*a"), 64);
        due("written anew it is less deep", depth("a=b*c;a=b;d=a*b"), 32);
        due("handed on", depth("a=b*c;d=a;e=d;f=e&e"), 33);
        due("another isn't deeper", depth("a=b*c;d=e*f"), 32);
    }

    @Says(at = "Term III", words = "with an if: 5 more than the deepest of the SUM, the if's NUMBER and what the NUMBER was.")
    static void withAnIf5MoreThanTheDeepest() {
        due("the sum", depth("if b a=c*d"), 37);
        due("the if's number", depth("b=c*d;if b a=1"), 37);
        due("what the number was", depth("a=c*d;if b a=1"), 37);
        due("all three alike", depth("a=c*d;b=c*d;if b a=c*d"), 37);
        due("none", depth("if b a=1"), 5);
        due("one behind another", depth("if b a=1;if b a=2;if b a=3"), 15);
        due("the number itself being the if's", depth("a=b*b;if a a=1"), 37);
        due("asked later", depth("if b a=c*d;e=a&a"), 38);
    }

    @Says(at = "Term III", words = "DEPTH of a BLOCK: the deepest that any NUMBER has when all LINES are done, or had.")
    static void depthOfABlockIsTheDeepestItHasOrHad() {
        due("has, the first", depth("a=b*c;d=e+f"), 32);
        due("has, the last", depth("d=e+f;a=b*c"), 32);
        due("had", depth("a=b*c;a=1"), 32);
        due("had, and another has less", depth("a=b*c;a=1;d=a+b"), 32);
        due("nothing deep", depth("a=1;b=a;c=b"), 0);
    }

    @Says(at = "Term III", words = "TICKS: 1, and so often as it is done DEPTH by PER, upwards (1 at least).")
    static void circuitsTicksUpwardsAnd1AtLeast() {
        int[][] want = {{1, 97}, {15, 10}, {16, 7}, {31, 7}, {32, 4}, {33, 4}, {1000, 4}};
        for (int[] w : want) {
            HalfGates desk = Check.desk("x 3{a=b*c}y 3{a=b}");
            desk.set(8, w[0], 3);
            due("depth 32 by " + w[0], desk.block(0, 6), w[1]);
            due("depth 0 by " + w[0], desk.block(1, 6), 4);
        }
        due("once", of("a=b", 1, 6), 2);
        due("50 times", of("a=b", 50, 6), 51);
        HalfGates most = Check.desk("x 50{a=b" + "*b".repeat(120) + "}");
        most.set(16, 1, 100);
        due("the most depth", most.block(0, 5), 7680);
        due("the most of a circuit's ticks", most.block(0, 6), 384001);
        due("ticks 1 of it", most.ticks(1), 384101);
    }

    @Says(at = "Term III", words = "READS of a BLOCK: NUMBERS that a LINE asks (in its SUM, its if; with an if the one it writes, too)")
    static void readsAreWhatALineAsks() {
        due("none", reads("a=7"), 0);
        due("in its sum", reads("a=b+(c+~h)"), 2 + 4 + 128);
        due("not the one it writes", reads("a=b"), 2);
        due("the one it writes, if asked", reads("a=a"), 1);
        due("its if", reads("if c c=1"), 4);
        due("with an if the one it writes", reads("if c a=1"), 1 + 4);
        due("all three", reads("if c a=h"), 1 + 4 + 128);
        due("all eight", reads("a=a+b+c+d+e+f+g+h"), 255);
    }

    @Says(at = "Term III", words = "and that no LINE ahead wrote without an if.")
    static void readsArentWhatALineAheadWroteWithoutAnIf() {
        due("written ahead", reads("a=1;b=a"), 0);
        due("written ahead by far", reads("a=1;b=2;c=3;d=a"), 0);
        due("written ahead with an if", reads("if c a=1;b=a"), 1 + 4);
        due("written in the same line", reads("a=a+1"), 1);
        due("written behind", reads("b=a;a=1"), 1);
        due("the if's number written ahead", reads("c=1;if c a=2"), 1);
        due("the one it writes written ahead", reads("a=1;if c a=2"), 4);
        due("with an if first, then without", reads("if c a=1;a=2;b=a"), 1 + 4);
        due("of another block it doesn't count", Check.desk("x1{a=1}y1{b=a}").block(1, 7), 1);
        // a BLOCK done again reads what it wrote the time before: it isn't among its READS for that
        due("50 times", of("a=1;b=a", 50, 7), 0);
    }

    @Says(at = "Term III", words = "WRITES: NUMBERS that some LINE writes.")
    static void writesAreWhatSomeLineWrites() {
        due("one", of("a=b", 1, 8), 1);
        due("the last", of("h=a", 1, 8), 128);
        due("with an if", of("if c d=1", 1, 8), 8);
        due("twice the same", of("d=1;d=2", 1, 8), 8);
        due("all eight", of("a=1;b=1;c=1;d=1;e=1;f=1;g=1;h=1", 1, 8), 255);
        due("of its own alone", Check.desk("x1{a=1}y1{b=1}").block(1, 8), 2);
    }
}
