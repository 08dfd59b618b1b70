import java.util.NoSuchElementException;

/** Promises 20 to 26, runs: run, once, changes, still, name, count, trouble. */
public final class Promises20To26Test {
    private static final int LEAST = -2147483648;
    private static final int MOST = 2147483647;
    private static final String THREE = "one 2{a=b+c;if a d=~b-1;a=d}two 3{e=a*7;e=e}tri 1{h=9}";

    public static void main(String[] args) {
        Sentences.test(Promises20To26Test.class);
    }

    private static void due(String call, long got, long want) {
        Check.due(call, got, want);
    }

    private static void dueNumbers(String behind, HalfGates desk, int... want) {
        for (int k = 0; k < want.length; k++) {
            due("NUMBER " + k + " behind " + behind, desk.get(k), want[k]);
        }
    }

    // ---- promise 20

    @Says(at = "Promise 20", words = "All BLOCKS in order are done on the NUMBERS, by a CUT: its TICKS.")
    static void runAllBlocksInOrderByACut() {
        int[] ticks = {45, 40, 25, 17, 49, 44, 29, 21};
        for (int cut = 0; cut < 8; cut++) {
            HalfGates desk = Check.desk(THREE);
            desk.put(1, 5);
            desk.put(2, 6);
            due("run " + cut, desk.run(cut), ticks[cut]);
            due("trouble", desk.trouble(), 0);
            dueNumbers("run " + cut, desk, 249, 5, 6, 249, 207, 0, 0, 9);
        }
        // in order: of twelve the last is done last, each so often as told
        HalfGates twelve = new HalfGates();
        StringBuilder text = new StringBuilder();
        for (int b = 0; b < 12; b++) {
            text.append((char) ('a' + b)).append(b + 1).append("{a=a+1;b=").append(b).append("+0}");
        }
        Check.tell(twelve, text.toString());
        twelve.run(0b101010101010);
        dueNumbers("run of twelve", twelve, 78, 11);
        twelve.run(0);
        dueNumbers("run of twelve again", twelve, 156, 11);
        // the wrap-around, at each WIDTH the same whichever way it is cut
        for (int w = 4; w <= 16; w++) {
            for (int cut = 0; cut < 4; cut++) {
                HalfGates desk = Check.desk("x50{a=a-1;b=b*3;c=c+a}y1{d=~c;e=a<b}");
                desk.set(w, 40, 3);
                desk.put(1, 1);
                desk.run(cut);
                long top = 1L << w;
                long b = 1;
                for (int i = 0; i < 50; i++) {
                    b = b * 3 % top;
                }
                long a = Math.floorMod(-50, top);
                long c = Math.floorMod(-1275, top);
                dueNumbers("run " + cut + " at " + w, desk, (int) a, (int) b, (int) c, (int) (top - 1 - c), a < b ? 1 : 0, 0, 0, 0);
            }
        }
    }

    @Says(at = "Promise 20", words = "NONE: 4; 2.")
    static void runNone() {
        for (int cut : new int[] {0, -1, 1, LEAST, MOST}) {
            Check.refused(new HalfGates(), "run " + cut + " without a program", d -> d.run(cut), -1, 4);
        }
        for (int cut : new int[] {-1, 8, 4096, LEAST, MOST}) {
            Check.refused(Check.desk(THREE), "run " + cut, d -> d.run(cut), -1, 2);
        }
    }

    // ---- promise 21

    @Says(at = "Promise 21", words = {"BLOCK b alone is done once (one time, not so often as told),",
        "by its circuit or its code: true;"})
    static void onceABlockAloneOneTime() {
        for (boolean circuit : new boolean[] {false, true}) {
            HalfGates desk = Check.desk("x50{a=a+1}y50{b=b+1;c=c+b}z1{h=7}");
            desk.put(8, 8);
            due("once 1", desk.once(1, circuit) ? 1 : 0, 1);
            due("trouble", desk.trouble(), 0);
            dueNumbers("once 1", desk, 0, 1, 1, 0, 0, 0, 0, 0);
            due("once 1 again", desk.once(1, circuit) ? 1 : 0, 1);
            dueNumbers("once 1 again", desk, 0, 2, 3, 0, 0, 0, 0, 0);
            due("once 0", desk.once(0, circuit) ? 1 : 0, 1);
            due("once 2", desk.once(2, circuit) ? 1 : 0, 1);
            dueNumbers("once 0 and 2", desk, 1, 2, 3, 0, 0, 0, 0, 7);
            desk.put(0, 255);
            desk.once(0, circuit);
            dueNumbers("once, the wrap-around", desk, 0);
        }
    }

    @Says(at = "Promise 21", words = "false: 4; 1.")
    static void onceFalse() {
        for (boolean circuit : new boolean[] {false, true}) {
            for (int b : new int[] {0, -1, 3}) {
                Check.refused(new HalfGates(), "once " + b + " without a program", d -> d.once(b, circuit) ? 1 : 0, 0, 4);
            }
            for (int b : new int[] {-1, 3, 12, LEAST, MOST}) {
                Check.refused(Check.desk(THREE), "once " + b, d -> d.once(b, circuit) ? 1 : 0, 0, 1);
            }
        }
    }

    // ---- promise 22

    @Says(at = "Promise 22", words = {"Bits of NUMBER k that would change if BLOCK b were done once;", "(Nothing is done.)"})
    static void changesAreBitsThatWouldChange() {
        for (int w : new int[] {4, 8, 16}) {
            int most = (1 << w) - 1;
            HalfGates desk = Check.desk("x50{a=a+1;b=~b;if h c=c^1}y1{a=a}");
            desk.set(w, 40, 3);
            desk.put(0, most);
            Check.answered(desk, "all bits, by the wrap-around at " + w, d -> d.changes(0, 0), most);
            Check.answered(desk, "all bits, by ~ at " + w, d -> d.changes(0, 1), most);
            Check.answered(desk, "none, its if not holding", d -> d.changes(0, 2), 0);
            Check.answered(desk, "none, no LINE writing it", d -> d.changes(0, 7), 0);
            Check.answered(desk, "none, written as it was", d -> d.changes(1, 0), 0);
            desk.put(7, 1);
            due("one, its if holding", desk.changes(0, 2), 1);
            desk.put(0, 7);
            due("7 to 8", desk.changes(0, 0), 15);
            desk.put(0, 8);
            due("8 to 9", desk.changes(0, 0), 1);
        }
    }

    @Says(at = "Promise 22", words = "NONE: 4; 1.")
    static void changesNone() {
        int[][] wrong = {{-1, 0}, {3, 0}, {0, -1}, {0, 8}, {3, 8}, {LEAST, 0}, {MOST, 0}, {0, LEAST}, {0, MOST}};
        for (int[] w : wrong) {
            String call = "changes " + w[0] + " " + w[1];
            Check.refused(new HalfGates(), call + " without a program", d -> d.changes(w[0], w[1]), -1, 4);
            Check.refused(Check.desk(THREE), call, d -> d.changes(w[0], w[1]), -1, 1);
        }
        Check.refused(new HalfGates(), "changes 0 0 without a program", d -> d.changes(0, 0), -1, 4);
    }

    // ---- promise 23

    @Says(at = "Promise 23", words = {"Whether BLOCK b, done once, leaves all NUMBERS as they are (1) or not (0);", "(Nothing is done.)"})
    static void stillWhetherAllNumbersAreLeft() {
        for (char name = 'a'; name <= 'h'; name++) {
            HalfGates desk = Check.desk("x50{" + name + "=1}y50{" + name + "=" + name + "}");
            Check.answered(desk, "still 0, " + name + " alone changing", d -> d.still(0), 0);
            Check.answered(desk, "still 1, none changing", d -> d.still(1), 1);
            desk.put(name - 'a', 1);
            Check.answered(desk, "still 0, being so already", d -> d.still(0), 1);
        }
        // to and fro within a time is as they are; a change that comes with a second time doesn't count
        Check.answered(Check.desk("x1{a=a+1;b=a;a=a-1;b=0}"), "to and fro", d -> d.still(0), 1);
        Check.answered(Check.desk("x50{if a b=1;a=0}"), "by its if", d -> d.still(0), 1);
        HalfGates wrap = Check.desk("x1{a=a+128;a=a+128}");
        Check.answered(wrap, "by the wrap-around", d -> d.still(0), 1);
        wrap.set(9, 40, 3);
        Check.answered(wrap, "not at a wider WIDTH", d -> d.still(0), 0);
    }

    @Says(at = "Promise 23", words = "NONE: 4; 1.")
    static void stillNone() {
        for (int b : new int[] {0, -1, 3}) {
            Check.refused(new HalfGates(), "still " + b + " without a program", d -> d.still(b), -1, 4);
        }
        for (int b : new int[] {-1, 3, 12, LEAST, MOST}) {
            Check.refused(Check.desk(THREE), "still " + b, d -> d.still(b), -1, 1);
        }
    }

    // ---- promise 24

    @Says(at = "Promise 24", words = "The name of BLOCK b: byte i.")
    static void nameByteI() {
        String[] names = {"azbycxdw", "if", "z"};
        for (int b = 0; b < 3; b++) {
            for (int i = 0; i < names[b].length(); i++) {
                HalfGates desk = Check.desk("azbycxdw 1{a=1}if 2{b=1}z 3{a=1}");
                int block = b;
                int at = i;
                Check.told(desk, "name " + b + " " + i, d -> Check.nameByte(d, block, at), names[b].charAt(i));
            }
        }
        HalfGates twelve = Check.desk(Check.blocks(12));
        due("name of the twelfth", Check.nameByte(twelve, 11, 0), 'l');
    }

    private static void dueThrown(HalfGates desk, int b, int i) {
        String call = "name " + b + " " + i;
        int trouble = desk.trouble();
        String thrown = "nothing";
        try {
            thrown = "the answer " + desk.name(b, i);
        } catch (RuntimeException e) {
            thrown = e.getClass().getName();
        }
        Check.due(call + " throws", thrown, NoSuchElementException.class.getName());
        due("trouble behind " + call, desk.trouble(), trouble);
    }

    @Says(at = "Promise 24", words = "NoSuchElementException if there is none such.")
    static void nameThrowsIfThereIsNoneSuch() {
        HalfGates desk = Check.desk("azbycxdw 1{a=1}if 2{b=1}z 3{a=1}");
        int[][] wrong = {{0, 8}, {0, 9}, {1, 2}, {1, 7}, {2, 1}, {0, -1}, {1, -1}, {2, -1}, {2, -8}, {3, 0}, {-1, 0}, {-1, 8}, {12, 0},
            {LEAST, 0}, {MOST, 0}, {0, LEAST}, {0, MOST}, {LEAST, LEAST}, {MOST, MOST}};
        for (int[] w : wrong) {
            dueThrown(desk, w[0], w[1]);
        }
        String before = Snapshot.of(desk);
        dueThrown(desk, 3, 0);
        Check.due("what it leaves", Snapshot.of(desk), before);
        dueThrown(new HalfGates(), 0, 0);
        HalfGates twelve = Check.desk(Check.blocks(12));
        dueThrown(twelve, 11, 1);
        dueThrown(twelve, 12, 0);
        // of a former, longer name nothing is left
        Check.tell(desk, "x1{a=1}");
        dueThrown(desk, 0, 1);
        dueThrown(desk, 1, 0);
    }

    // ---- promise 25

    @Says(at = "Promise 25", words = "0 WIDTH, 1 PER, 2 MOVE, 3 BLOCKS, 4 bytes of THE TAPE, 5 OPS in all.")
    static void countEach() {
        HalfGates desk = new HalfGates();
        int[] first = {8, 40, 3, 0, 0, 0};
        for (int what = 0; what < 6; what++) {
            due("count " + what + " at first", desk.count(what), first[what]);
        }
        Check.tell(desk, THREE);
        desk.set(12, 34, 56);
        desk.feed(0, 0, 0, 0, 0);
        int[] then = {12, 34, 56, 3, 20, 5};
        for (int what = 0; what < 6; what++) {
            due("count " + what, desk.count(what), then[what]);
        }
        // a FAULT empties THE TAPE and leaves the rest
        desk.program(20);
        int[] behind = {12, 34, 56, 3, 0, 5};
        for (int what = 0; what < 6; what++) {
            due("count " + what + " behind a FAULT", desk.count(what), behind[what]);
        }
    }

    @Says(at = "Promise 25", words = "NONE for others.")
    static void countNoneForOthers() {
        for (int what : new int[] {-1, 6, 7, LEAST, MOST}) {
            Check.told(Check.desk(THREE), "count " + what, d -> d.count(what), -1);
        }
    }

    // ---- promise 26

    @Says(at = "Promise 26", words = "TROUBLE.")
    static void troubleIsTrouble() {
        HalfGates desk = new HalfGates();
        due("trouble at first", desk.trouble(), 0);
        desk.run(0);
        due("trouble 4", desk.trouble(), 4);
        due("trouble 4 asked again", desk.trouble(), 4);
        desk.program(0);
        due("trouble 3", desk.trouble(), 3);
        desk.program(1);
        due("trouble 2", desk.trouble(), 2);
        desk.put(8, 0);
        due("trouble 1", desk.trouble(), 1);
        desk.put(7, 0);
        due("trouble 0", desk.trouble(), 0);
    }
}
