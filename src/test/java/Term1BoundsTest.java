/** Term I, BOUNDS: of each bound the value just inside it and the one just outside. */
public final class Term1BoundsTest {
    private static final int LEAST = -2147483648;
    private static final int MOST = 2147483647;

    public static void main(String[] args) {
        Sentences.test(Term1BoundsTest.class);
    }

    private static void due(String call, long got, long want) {
        Check.due(call, got, want);
    }

    private static long set(HalfGates desk, int width, int per, int move) {
        return desk.set(width, per, move) ? 1 : 0;
    }

    @Says(at = "Term I", words = "WIDTH 4 .. 16 bits")
    static void width4To16() {
        HalfGates desk = new HalfGates();
        for (int w = 4; w <= 16; w++) {
            due("set width " + w, set(desk, w, 40, 3), 1);
            due("width", desk.count(0), w);
        }
        for (int w : new int[] {3, 17, 0, -1, -8, 32, 260, LEAST, MOST}) {
            Check.refused(desk, "set width " + w, d -> set(d, w, 40, 3), 0, 2);
        }
    }

    @Says(at = "Term I", words = "NUMBERS a .. h (8)")
    static void numbersAToH() {
        HalfGates desk = new HalfGates();
        for (int k = 0; k < 8; k++) {
            due("put " + k, desk.put(k, k + 1) ? 1 : 0, 1);
        }
        for (int k = 0; k < 8; k++) {
            due("get " + k, desk.get(k), k + 1);
            char name = (char) ('a' + k);
            due("writes of " + name, Check.desk("x1{" + name + "=1}").block(0, 8), 1 << k);
            due("reads of " + name, Check.desk("x1{a=" + name + "}").block(0, 7), 1 << k);
        }
        for (int k : new int[] {-1, 8, LEAST, MOST}) {
            Check.refused(desk, "put " + k, d -> d.put(k, 99) ? 1 : 0, 0, 1);
            due("get " + k, desk.get(k), -1);
        }
        Check.bad("x1{i=1}", 2, 3);
        Check.bad("x1{a=i}", 2, 5);
    }

    @Says(at = "Term I", words = "each from 0 to 2 to the WIDTH less 1")
    static void eachNumberFrom0ToTwoToTheWidthLess1() {
        HalfGates desk = new HalfGates();
        int[] most = {15, 31, 63, 127, 255, 511, 1023, 2047, 4095, 8191, 16383, 32767, 65535};
        for (int w = 4; w <= 16; w++) {
            int top = most[w - 4];
            desk.set(w, 40, 3);
            int[][] want = {{0, 0}, {top, top}, {top + 1, 0}, {top + 2, 1}, {-1, top}, {-top, 1}, {-top - 1, 0}};
            for (int[] v : want) {
                desk.put(5, v[0]);
                due("put " + v[0] + " at width " + w, desk.get(5), v[1]);
            }
        }
    }

    /** The NUMBER h behind h = SUM done once, a being the most that it can be, b 0. */
    private static int worth(String sum, int width) {
        HalfGates desk = Check.desk("x1{h=" + sum + "}");
        desk.set(width, 40, 3);
        desk.put(0, -1);
        desk.once(0, true);
        return desk.get(7);
    }

    @Says(at = "Term I", words = "all results are taken by 2 to the WIDTH")
    static void allResultsAreTakenByTwoToTheWidth() {
        for (int w = 4; w <= 16; w++) {
            int most = (1 << w) - 1;
            due("most + 1 at " + w, worth("a+1", w), 0);
            due("most + most at " + w, worth("a+a", w), most - 1);
            due("0 - 1 at " + w, worth("b-1", w), most);
            due("0 - most at " + w, worth("b-a", w), 1);
            due("most * most at " + w, worth("a*a", w), 1);
            due("most * 2 at " + w, worth("a*2", w), most - 1);
            due("most * most * most at " + w, worth("a*a*a", w), most);
            due("~ 0 at " + w, worth("~b", w), most);
            due("~ most at " + w, worth("~a", w), 0);
            // what is within a SUM is a result, too
            due("(most + 1) < 1 at " + w, worth("(a+1)<1", w), 1);
            due("(0 - 1) < most at " + w, worth("(b-1)<a", w), 0);
            due("1 < ~ 0 at " + w, worth("1<~b", w), 1);
            due("(most * most) < 2 at " + w, worth("(a*a)<2", w), 1);
        }
    }

    @Says(at = "Term I", words = "A PROGRAM of 12 BLOCKS")
    static void programOf12Blocks() {
        Check.fine(Check.blocks(11), 11);
        Check.fine(Check.blocks(12), 12);
        Check.bad(Check.blocks(13), 5, 96);
        HalfGates desk = Check.desk(Check.blocks(12));
        due("often of the twelfth", desk.block(11, 0), 1);
        due("name of the twelfth", desk.name(11, 0), 'l');
        due("block 12", desk.block(12, 0), -1);
    }

    @Says(at = "Term I", words = "of each 8 LINES")
    static void ofEach8Lines() {
        String seven = "a=1;".repeat(7);
        HalfGates desk = Check.desk("x1{" + seven + "a=1}y1{" + seven + "a=1}");
        due("lines of the first", desk.block(0, 1), 8);
        due("lines of the second, counted anew", desk.block(1, 1), 8);
        Check.bad("x1{" + seven + "a=1;a=1}", 5, 35);
        Check.bad("x1{a=1}y1{" + seven + "a=1;a=1}", 5, 42);
        // twelve BLOCKS of eight LINES each, twice, so that none is left of the first
        StringBuilder full = new StringBuilder();
        for (char name = 'a'; name < 'm'; name++) {
            full.append(name).append("1{a=1;b=2;c=3;d=4;e=5;f=6;g=7;h=h+1}");
        }
        HalfGates most = Check.desk(full.toString());
        due("twelve blocks of eight lines again", Check.tell(most, full.toString()), 12);
        for (int b = 0; b < 12; b++) {
            due("lines of block " + b, most.block(b, 1), 8);
            due("code's ticks of block " + b, most.block(b, 3), 9);
        }
        most.run(4095);
        due("g behind all", most.get(6), 7);
        due("h behind all", most.get(7), 12);
        due("seven lines", Check.desk("x1{" + seven.substring(0, 27) + "}").block(0, 1), 7);
        due("one line", Check.desk("x1{a=1}").block(0, 1), 1);
    }

    @Says(at = "Term I", words = "at most 120 OPS in all (SIGNS, ~ and ifs)")
    static void atMost120OpsInAll() {
        for (String sign : new String[] {"+", "-", "*", "&", "|", "^", "<"}) {
            String most = "x1{a=b" + (sign + "b").repeat(120);
            Check.fine(most + "}", 1);
            due("ops of 120 " + sign, Check.desk(most + "}").count(5), 120);
            Check.bad(most + sign + "b}", 5, 246);
        }
        Check.fine("x1{a=" + "~".repeat(120) + "b}", 1);
        Check.bad("x1{a=" + "~".repeat(121) + "b}", 5, 125);
        // 56 ifs in seven BLOCKS and 64 ~ in an eighth
        StringBuilder ifs = new StringBuilder();
        for (char name = 'a'; name <= 'g'; name++) {
            ifs.append(name).append("1{").append("if a b=1;".repeat(7)).append("if a b=1}");
        }
        HalfGates desk = Check.desk(ifs + "h1{a=" + "~".repeat(64) + "b}");
        due("ops of ifs and ~", desk.count(5), 120);
        due("ifs of the first", desk.block(0, 2), 8);
        Check.bad(ifs + "h1{a=" + "~".repeat(65) + "b}", 5, 594);
        // in all, not of each BLOCK
        String half = "x1{a=b" + "+b".repeat(60) + "}";
        due("ops of two blocks", Check.desk(half + "y1{a=b" + "-b".repeat(60) + "}").count(5), 120);
        Check.bad(half + "y1{a=b" + "-b".repeat(61) + "}", 5, 253);
        Check.bad(half + "y1{a=b" + "-b".repeat(60) + ";if a b=1}", 5, 254);
        // neither = nor ( nor ; is an OP
        due("no op", Check.desk("x1{a=(1);b=((c))}").count(5), 0);
    }

    @Says(at = "Term I", words = "depth of ( at most 8")
    static void depthOfBracketsAtMost8() {
        String open = "(".repeat(8);
        String closed = ")".repeat(8);
        Check.fine("x1{a=" + open + "b" + closed + "}", 1);
        Check.bad("x1{a=" + open + "(b)" + closed + "}", 5, 13);
        // what has been closed is open no more
        Check.fine("x1{a=" + open + "b" + closed + "+" + open + "b" + closed + ";c=" + open + "b" + closed + "}", 1);
        Check.fine("x1{a=" + open + "b)+(b" + closed + "}", 1);
        Check.bad("x1{a=" + open + "b)+((b" + closed + ")}", 5, 17);
        Check.bad("x1{a=" + "~(".repeat(9), 5, 22);
        due("worth of eight", worth("((((((((a+2)+2)+2)+2)+2)+2)+2)+2)", 8), 15);
        due("worth of eight to the right", worth("2+(2+(2+(2+(2+(2+(2+(2+(a+2))))))))", 8), 17);
    }

    @Says(at = "Term I", words = "PER (1 .. 1,000; 40 at first): depths that a circuit does in a TICK")
    static void per1To1000And40AtFirst() {
        HalfGates desk = new HalfGates();
        due("per at first", desk.count(1), 40);
        for (int per : new int[] {1, 2, 999, 1000}) {
            due("set per " + per, set(desk, 8, per, 3), 1);
            due("per", desk.count(1), per);
        }
        for (int per : new int[] {0, 1001, -1, LEAST, MOST}) {
            Check.refused(desk, "set per " + per, d -> set(d, 8, per, 3), 0, 2);
        }
        // depths 40 and 41: one TICK and two of a circuit at first
        due("depth 40 at first", Check.desk("x1{d=(a*b)&c&c&c&c&c&c&c&c}").block(0, 6), 1 + 1);
        due("depth 41 at first", Check.desk("x1{d=(a*b)&c&c&c&c&c&c&c&c&c}").block(0, 6), 1 + 2);
        HalfGates deep = Check.desk("x1{d=(a*b)&c&c&c&c&c&c&c&c}");
        deep.set(8, 1, 3);
        due("depth 40 by 1", deep.block(0, 6), 1 + 40);
        deep.set(8, 1000, 3);
        due("depth 40 by 1000", deep.block(0, 6), 1 + 1);
        // depth 1024 at WIDTH 16 by the most PER
        HalfGates deepest = Check.desk("x1{a=b" + "*b".repeat(16) + "}");
        deepest.set(16, 1000, 3);
        due("depth 1024", deepest.block(0, 5), 1024);
        due("depth 1024 by 1000", deepest.block(0, 6), 1 + 2);
    }

    @Says(at = "Term I", words = "MOVE (0 .. 100; 3 at first): TICKS to bring a NUMBER across")
    static void move0To100And3AtFirst() {
        HalfGates desk = Check.desk("x1{a=1;b=2}");
        due("move at first", desk.count(2), 3);
        due("ticks with two moved at first", desk.ticks(1), 2 + 6);
        int[][] want = {{0, 2}, {1, 4}, {99, 200}, {100, 202}};
        for (int[] w : want) {
            due("set move " + w[0], set(desk, 8, 40, w[0]), 1);
            due("move", desk.count(2), w[0]);
            due("ticks with two moved by " + w[0], desk.ticks(1), w[1]);
        }
        for (int move : new int[] {-1, 101, LEAST, MOST}) {
            Check.refused(desk, "set move " + move, d -> set(d, 8, 40, move), 0, 2);
            due("ticks still", desk.ticks(1), 202);
        }
    }
}
