/** Term IV: what is FRESH where, what is MOVED, and which CUT is QUICKEST. */
public final class Term4CutsTest {
    /**
     * Width 8, per 40: one: 14 ticks of code, 128 gates, 3 ticks as circuit, reads bcd, writes ad;
     * two: 30, 384, 4, reads a, writes e; tri: 1, 0, 2, reads none, writes h.
     */
    private static final String THREE = "one 2{a=b+c;if a d=~b-1;a=d}two 3{e=a*7;e=e}tri 1{h=9}";

    public static void main(String[] args) {
        Sentences.test(Term4CutsTest.class);
    }

    private static void due(String call, long got, long want) {
        Check.due(call, got, want);
    }

    /** What a CUT has MOVED ahead of each BLOCK, and at the end. */
    private static void dueMoves(String text, int cut, int... want) {
        HalfGates desk = Check.desk(text);
        for (int b = 0; b < want.length; b++) {
            due("moves " + cut + " " + b + " of " + text, desk.moves(cut, b), want[b]);
        }
        due("moves behind the end", desk.moves(cut, want.length), -1);
    }

    @Says(at = "Term IV", words = "A CUT: BLOCKS made circuits, as bits.")
    static void cutIsBlocksMadeCircuitsAsBits() {
        HalfGates desk = Check.desk(Check.blocks(11) + "l 1{a=b*b}");
        due("gates of none", desk.gates(0), 0);
        due("gates of all but the last", desk.gates(2047), 0);
        due("gates of the last", desk.gates(2048), 384);
        due("gates of all", desk.gates(4095), 384);
        due("gates of one more", desk.gates(4096), -1);
        HalfGates first = Check.desk("a 1{a=b*b}b 1{a=b}");
        due("gates of the first", first.gates(1), 384);
        due("gates of the second", first.gates(2), 0);
    }

    @Says(at = "Term IV", words = "At first all NUMBERS are FRESH on both sides.")
    static void atFirstAllNumbersAreFreshOnBothSides() {
        dueMoves("x1{a=a+b+c+d+e+f+g+h}", 0, 0, 0);
        dueMoves("x1{a=a+b+c+d+e+f+g+h}", 1, 0, 1);
        // also those that put() or a run() has changed since
        HalfGates desk = Check.desk("x1{b=a}");
        desk.put(0, 7);
        due("run on the circuit's side", desk.run(1), 2 + 3);
        due("moves ahead of it", desk.moves(1, 0), 0);
        due("run again", desk.run(1), 2 + 3);
    }

    @Says(at = "Term IV", words = "A BLOCK has those of its READS that aren't FRESH on its side MOVED there")
    static void readsThatArentFreshAreMoved() {
        dueMoves("p1{a=1;b=2}q1{c=a}", 0, 0, 0, 0);
        dueMoves("p1{a=1;b=2}q1{c=a}", 1, 0, 1, 2);
        dueMoves("p1{a=1;b=2}q1{c=a}", 2, 0, 1, 4);
        dueMoves("p1{a=1;b=2}q1{c=a}", 3, 0, 0, 7);
        // all eight at once
        String eight = "p1{a=1;b=1;c=1;d=1;e=1;f=1;g=1;h=1}q1{a=a+b+c+d+e+f+g+h}";
        dueMoves(eight, 1, 0, 255, 0);
        dueMoves(eight, 2, 0, 255, 1);
        // what it asks but has written itself ahead isn't among its READS
        dueMoves("p1{a=1}q1{a=2;b=a}", 2, 0, 0, 3);
        // a BLOCK done often has them MOVED once
        due("moved of 50 times", Check.desk("p1{a=1}q50{b=b+a}").moved(2), 2);
    }

    @Says(at = "Term IV", words = "(they are FRESH on both then);")
    static void movedTheyAreFreshOnBothThen() {
        String text = "p1{a=1}q1{b=a}r1{c=a}";
        dueMoves(text, 0b010, 0, 1, 0, 2);
        dueMoves(text, 0b110, 0, 1, 0, 6);
        dueMoves(text, 0b001, 0, 1, 0, 0);
        dueMoves(text, 0b101, 0, 1, 0, 4);
    }

    @Says(at = "Term IV", words = "behind it its WRITES are FRESH on its side alone.")
    static void behindItItsWritesAreFreshOnItsSideAlone() {
        dueMoves("p1{a=1}q1{a=2}r1{b=a}", 0b010, 0, 0, 1, 0);
        dueMoves("p1{a=1}q1{a=2}r1{b=a}", 0b001, 0, 0, 0, 0);
        dueMoves("p1{a=1}q1{a=2}r1{b=a}", 0b101, 0, 0, 1, 2);
        // also of one that it has had MOVED, and with an if that may not hold
        dueMoves("p1{a=1}q1{a=a+1}", 2, 0, 1, 1);
        dueMoves("p1{a=1}q1{a=a+1}r1{a=a+1}", 0b010, 0, 1, 1, 0);
        dueMoves("p1{if b a=1}", 1, 0, 1);
        dueMoves("p1{if b a=1}q1{c=a}", 2, 0, 1, 4);
    }

    @Says(at = "Term IV", words = "At the end what isn't FRESH on the code's side is MOVED there.")
    static void atTheEndWhatIsntFreshOnTheCodesSideIsMoved() {
        dueMoves("p1{a=1;b=1;c=1;d=1;e=1;f=1;g=1;h=1}", 0, 0, 0);
        dueMoves("p1{a=1;b=1;c=1;d=1;e=1;f=1;g=1;h=1}", 1, 0, 255);
        // what isn't FRESH on the circuits' side stays so
        dueMoves("p1{a=1}q1{b=2}", 2, 0, 0, 2);
        // what code has written again, or has had MOVED already, isn't MOVED at the end
        dueMoves("p1{a=1;b=2}q1{a=3}", 1, 0, 0, 2);
        dueMoves("p1{a=1;b=2}q1{c=b}", 1, 0, 2, 1);
    }

    @Says(at = "Term IV", words = "TICKS of a CUT: of its BLOCKS on their sides, and MOVE for each MOVED.")
    static void ticksOfACut() {
        int[] sides = {45, 34, 19, 8, 46, 35, 20, 9};
        int[] moved = {0, 2, 2, 3, 1, 3, 3, 4};
        HalfGates desk = Check.desk(THREE);
        for (int move : new int[] {0, 3, 100}) {
            desk.set(8, 40, move);
            for (int cut = 0; cut < 8; cut++) {
                due("ticks " + cut + " with move " + move, desk.ticks(cut), sides[cut] + move * moved[cut]);
            }
        }
    }

    @Says(at = "Term IV", words = "ROOM: the most NUMBERS MOVED at once (ahead of a BLOCK, or at the end).")
    static void roomIsTheMostMovedAtOnce() {
        HalfGates ahead = Check.desk("p1{a=1;b=1;c=1}q1{d=a+b+c}");
        due("room, ahead of a block", ahead.room(2), 3);
        due("moved in all", ahead.moved(2), 4);
        HalfGates end = Check.desk("p1{a=1;b=1;c=1}q1{d=a}");
        due("room, at the end", end.room(1), 2);
        due("moved in all", end.moved(1), 3);
        due("room of none moved", end.room(0), 0);
        HalfGates between = Check.desk("p1{a=1;b=1}q1{c=a+b}r1{d=c}");
        due("room, ahead of one of several", between.room(2), 2);
        due("moved in all", between.moved(2), 3);
        due("the most room", Check.desk("p1{a=1;b=1;c=1;d=1;e=1;f=1;g=1;h=1}").room(1), 8);
    }

    @Says(at = "Term IV", words = "QUICKEST within so many GATES: the CUT with the fewest TICKS whose GATES together are no more;")
    static void quickestWithinSoManyGates() {
        HalfGates desk = Check.desk(THREE);
        int[][] want = {{0, 0}, {127, 0}, {128, 1}, {129, 1}, {383, 1}, {384, 2}, {385, 2}, {511, 2}, {512, 3}, {1000000, 3}};
        for (int[] w : want) {
            due("quickest " + w[0], desk.quickest(w[0]), w[1]);
        }
        // though gates are there, none may be worth it
        desk.set(8, 40, 100);
        due("quickest with dear moves", desk.quickest(1000000), 0);
        // moves may make two circuits quicker where one alone is slower
        HalfGates both = Check.desk("p 2{a=a+1}q 2{a=a+1}");
        due("quickest, one alone being slower", both.quickest(79), 0);
        both.set(8, 40, 1);
        due("quickest, both being quicker", both.quickest(80), 3);
    }

    @Says(at = "Term IV", words = "of as quick ones the fewest GATES,")
    static void ofAsQuickOnesTheFewestGates() {
        HalfGates quick = Check.desk("x 1{a=a+1}");
        quick.set(8, 40, 0);
        due("both as quick", quick.ticks(1), quick.ticks(0));
        due("quickest", quick.quickest(1000), 0);
        // the fewest GATES come ahead of the least bits
        HalfGates fewer = Check.desk("x 2{a=a-1}y 2{b=b+1}");
        fewer.set(8, 40, 0);
        due("both as quick", fewer.ticks(1), fewer.ticks(2));
        due("quickest", fewer.quickest(79), 2);
        due("quickest of 47", fewer.quickest(47), 2);
        due("quickest of 48", fewer.quickest(48), 2);
    }

    @Says(at = "Term IV", words = "of these the least bits.")
    static void ofTheseTheLeastBits() {
        HalfGates alike = Check.desk("x 2{a=a+1}y 2{b=b+1}z 2{c=c+1}");
        alike.set(8, 40, 0);
        due("quickest of one's gates", alike.quickest(40), 1);
        due("quickest of two's gates", alike.quickest(80), 3);
        due("quickest of three's gates", alike.quickest(120), 7);
        // circuits without GATES: 0, 1, 2 and 3 all alike
        HalfGates same = Check.desk("x 1{a=1;b=2}y 1{a=1;b=2}");
        same.set(8, 40, 0);
        due("both as quick", same.ticks(3), same.ticks(0));
        due("quickest of all alike", same.quickest(0), 0);
    }
}
