/** Term V, TROUBLE, and the constants: each number by every call that can have it. */
public final class Term5TroubleTest {
    private static final int LEAST = -2147483648;

    public static void main(String[] args) {
        Sentences.test(Term5TroubleTest.class);
    }

    private static void due(String call, long got, long want) {
        Check.due(call, got, want);
    }

    @Says(at = "Term V", words = "TROUBLE of the latest call that may be refused: 0 it wasn't;")
    static void troubleOfTheLatestCallThatMayBeRefused() {
        due("trouble ahead of all calls", new HalfGates().trouble(), 0);
        HalfGates desk = Check.desk("x1{a=a}");
        due("trouble of program", desk.trouble(), 0);
        desk.put(8, 0);
        due("trouble of put", desk.trouble(), 1);
        desk.ticks(2);
        due("trouble of the later one", desk.trouble(), 2);
        due("trouble asked again", desk.trouble(), 2);
        due("feed", desk.feed(0, 0, 0, 0, 0), 20);
        due("trouble behind feed", desk.trouble(), 2);
        for (int i = 2; i <= 30; i++) {
            desk.feed(0, 0, 0, 0, 0);
        }
        due("feed of a full tape", desk.feed(0, 0, 0, 0, 0), -1);
        due("trouble behind feed of a full tape", desk.trouble(), 2);
        // calls that can't be refused leave it
        Check.told(desk, "get", d -> d.get(8), -1);
        Check.told(desk, "block", d -> d.block(9, 9), -1);
        Check.told(desk, "edge", d -> d.edge(0), -1);
        Check.told(desk, "count", d -> d.count(6), -1);
        Check.told(desk, "name", d -> Check.nameByte(d, 1, 0), -1);
        due("trouble behind them", desk.trouble(), 2);
        eachCallThatIsntRefusedHas0();
    }

    private static void eachCallThatIsntRefusedHas0() {
        answered("set", d -> d.set(8, 40, 3) ? 1 : 0, 1);
        answered("put", d -> d.put(0, 0) ? 1 : 0, 1);
        answered("ticks", d -> d.ticks(0), 1);
        answered("gates", d -> d.gates(0), 0);
        answered("moved", d -> d.moved(0), 0);
        answered("room", d -> d.room(0), 0);
        answered("moves", d -> d.moves(0, 0), 0);
        answered("quickest", d -> d.quickest(0), 0);
        answered("fewest", d -> d.fewest(1), 0);
        answered("fewest that can't be", d -> d.fewest(0), -2);
        answered("turn", d -> d.turn(0, 0), 4);
        answered("run", d -> d.run(0), 1);
        answered("once", d -> d.once(0, true) ? 1 : 0, 1);
        answered("changes", d -> d.changes(0, 0), 0);
        answered("still", d -> d.still(0), 1);
        HalfGates desk = Check.desk("x1{a=a}");
        desk.put(-1, 0);
        due("edges", desk.edges(), 1);
        due("trouble of edges", desk.trouble(), 0);
        desk.put(-1, 0);
        due("program", Check.tell(desk, "x1{a=1}"), 1);
        due("trouble of program", desk.trouble(), 0);
    }

    private static void answered(String call, Check.Call made, long answer) {
        Check.answered(Check.desk("x1{a=a}"), call, made, answer);
    }

    private static void refused(String call, Check.Call made, long answer, int trouble) {
        Check.refused(Check.desk("x1{a=1}"), call, made, answer, trouble);
    }

    @Says(at = "Term V", words = "1 there is none such;")
    static void trouble1ThereIsNoneSuch() {
        refused("put 8", d -> d.put(8, 1) ? 1 : 0, 0, 1);
        refused("moves 0 2", d -> d.moves(0, 2), -1, 1);
        refused("turn 0 1", d -> d.turn(0, 1), LEAST, 1);
        refused("once 1", d -> d.once(1, true) ? 1 : 0, 0, 1);
        refused("changes 1 0", d -> d.changes(1, 0), -1, 1);
        refused("changes 0 8", d -> d.changes(0, 8), -1, 1);
        refused("still 1", d -> d.still(1), -1, 1);
    }

    @Says(at = "Term V", words = "2 a number;")
    static void trouble2ANumber() {
        refused("set", d -> d.set(3, 40, 3) ? 1 : 0, 0, 2);
        refused("program 1 of an empty tape", d -> d.program(1), -1, 2);
        refused("ticks 2", d -> d.ticks(2), -1, 2);
        refused("gates 2", d -> d.gates(2), -1, 2);
        refused("moved 2", d -> d.moved(2), -1, 2);
        refused("room 2", d -> d.room(2), -1, 2);
        refused("moves 2 0", d -> d.moves(2, 0), -1, 2);
        refused("quickest -1", d -> d.quickest(-1), -1, 2);
        refused("fewest -1", d -> d.fewest(-1), -1, 2);
        refused("turn 2 0", d -> d.turn(2, 0), LEAST, 2);
        refused("run 2", d -> d.run(2), -1, 2);
    }

    @Says(at = "Term V", words = "3 a FAULT;")
    static void trouble3AFault() {
        String[] texts = {"x1{a=1", "x1{a=z}", "x1{a=1}x", "x0{a=1}", "x1{a=((((((((("};
        for (int i = 0; i < texts.length; i++) {
            HalfGates desk = Check.desk("x1{a=1}");
            due("program", Check.tell(desk, texts[i]), -1);
            due("trouble of FAULT " + (i + 1), desk.trouble(), 3);
            due("fault", desk.fault(), i + 1);
        }
    }

    @Says(at = "Term V", words = "4 no PROGRAM.")
    static void trouble4NoProgram() {
        noProgram("ticks", d -> d.ticks(0), -1);
        noProgram("gates", d -> d.gates(0), -1);
        noProgram("moved", d -> d.moved(0), -1);
        noProgram("room", d -> d.room(0), -1);
        noProgram("moves", d -> d.moves(0, 0), -1);
        noProgram("quickest", d -> d.quickest(0), -1);
        noProgram("fewest", d -> d.fewest(0), -1);
        noProgram("turn", d -> d.turn(0, 0), LEAST);
        noProgram("edges", d -> d.edges(), -1);
        noProgram("run", d -> d.run(0), -1);
        noProgram("once", d -> d.once(0, false) ? 1 : 0, 0);
        noProgram("changes", d -> d.changes(0, 0), -1);
        noProgram("still", d -> d.still(0), -1);
    }

    /** On a new desk, and on one whose only program() had a FAULT. */
    private static void noProgram(String call, Check.Call made, long answer) {
        Check.refused(new HalfGates(), call, made, answer, 4);
        HalfGates faulty = new HalfGates();
        due("program", Check.tell(faulty, "x1{a=1}y1{a=z}"), -1);
        Check.refused(faulty, call + " behind a FAULT", made, answer, 4);
    }

    @Says(at = "Constants", words = "`NONE = -1`: There is none; refused.")
    static void noneIsMinus1() {
        due("NONE", HalfGates.NONE, -1);
        due("there is none", new HalfGates().get(8), HalfGates.NONE);
        due("refused", new HalfGates().ticks(0), HalfGates.NONE);
    }
}
