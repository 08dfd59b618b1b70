import java.nio.charset.StandardCharsets;

/** What the tests of this project share: counting answers, and telling a text to a desk. */
final class Check {
    private static int passed = 0;
    private static int failed = 0;
    private static int passedAtBegin = 0;
    private static String about = "";

    /** A call whose answer is looked at; a boolean counts 1 or 0. */
    interface Call {
        long on(HalfGates desk);
    }

    private Check() {
    }

    /** What is due from here on is due by this sentence. */
    static void begin(String sentence) {
        about = sentence;
        passedAtBegin = passed + failed;
    }

    /** A test that looked at nothing is none. */
    static void endOfOne() {
        if (passed + failed == passedAtBegin) {
            fail("looked at no answer");
        }
        about = "";
    }

    static void fail(String what) {
        failed++;
        System.out.println(about + what);
    }

    static void due(String call, long got, long want) {
        if (got == want) {
            passed++;
            return;
        }
        fail(call + " answered " + got + ", due is " + want);
    }

    static void due(String call, boolean got, boolean want) {
        due(call, got ? 1 : 0, want ? 1 : 0);
    }

    static void due(String call, String got, String want) {
        if (got.equals(want)) {
            passed++;
            return;
        }
        fail(call + ": " + got + ", due is " + want);
    }

    static void end() {
        System.out.println(passed + " passed, " + failed + " failed");
        if (failed > 0 || passed == 0) {
            System.exit(1);
        }
    }

    /** A call that is refused: its answer, its TROUBLE, and that all which can be asked is as it was. */
    static void refused(HalfGates desk, String call, Call made, long answer, int trouble) {
        desk.put(0, desk.get(0));
        due("trouble ahead of " + call, desk.trouble(), 0);
        String before = Snapshot.of(desk);
        due(call, made.on(desk), answer);
        due("trouble of " + call, desk.trouble(), trouble);
        due("what " + call + " leaves", Snapshot.of(desk), before);
    }

    /** A call that is answered and changes nothing, whatever TROUBLE there was ahead of it. */
    static void answered(HalfGates desk, String call, Call made, long answer) {
        desk.put(-1, 0);
        due("trouble ahead of " + call, desk.trouble(), 1);
        String before = Snapshot.of(desk);
        due(call, made.on(desk), answer);
        due("trouble of " + call, desk.trouble(), 0);
        due("what " + call + " leaves", Snapshot.of(desk), before);
    }

    /** A call that can't be refused: it leaves TROUBLE and all else alone. */
    static void told(HalfGates desk, String call, Call made, long answer) {
        int trouble = desk.trouble();
        int place = desk.where();
        String before = Snapshot.of(desk);
        due(call, made.on(desk), answer);
        due("trouble behind " + call, desk.trouble(), trouble);
        due("where behind " + call, desk.where(), place);
        due("what " + call + " leaves", Snapshot.of(desk), before);
    }

    /** The feeds that bring a text, filled up with blanks to a multiple of twenty bytes. */
    static int[][] feeds(byte[] text) {
        int[][] feeds = new int[(text.length + 19) / 20][5];
        for (int i = 0; i < feeds.length * 20; i++) {
            int c = i < text.length ? text[i] & 255 : ' ';
            feeds[i / 20][i % 20 / 4] |= c << (24 - i % 4 * 8);
        }
        return feeds;
    }

    /** Feeds a text, with blanks behind it up to twenty bytes: how many bytes the text has. */
    static int feed(HalfGates desk, String text) {
        byte[] bytes = text.getBytes(StandardCharsets.ISO_8859_1);
        for (int[] f : feeds(bytes)) {
            desk.feed(f[0], f[1], f[2], f[3], f[4]);
        }
        return bytes.length;
    }

    /** Feeds a text and calls program() with its length. */
    static int tell(HalfGates desk, String text) {
        return desk.program(feed(desk, text));
    }

    static HalfGates desk(String text) {
        HalfGates desk = new HalfGates();
        if (tell(desk, text) < 0) {
            due("program of " + text, desk.fault(), 0);
        }
        return desk;
    }

    /** A text that has a FAULT, on a new desk. */
    static void bad(String text, int fault, int place) {
        HalfGates desk = new HalfGates();
        due("program of [" + text + "]", tell(desk, text), -1);
        due("trouble after [" + text + "]", desk.trouble(), 3);
        due("fault of [" + text + "]", desk.fault(), fault);
        due("where of [" + text + "]", desk.where(), place);
        due("count(3) after [" + text + "]", desk.count(3), 0);
        due("count(4) after [" + text + "]", desk.count(4), 0);
    }

    /** A text that has none. */
    static void fine(String text, int blocks) {
        HalfGates desk = new HalfGates();
        due("program of [" + text + "]", tell(desk, text), blocks);
        due("trouble after [" + text + "]", desk.trouble(), 0);
        due("fault of [" + text + "]", desk.fault(), 0);
        due("where of [" + text + "]", desk.where(), -1);
        due("count(3) after [" + text + "]", desk.count(3), blocks);
        due("count(4) after [" + text + "]", desk.count(4), 0);
    }

    /** BLOCKS a, b, c .. of eight bytes each. */
    static String blocks(int n) {
        StringBuilder s = new StringBuilder();
        for (int i = 0; i < n; i++) {
            s.append((char) ('a' + i)).append(" 1{a=1}");
        }
        return s.toString();
    }

    /** The byte of a name, or -1 where NoSuchElementException is thrown. */
    static int nameByte(HalfGates desk, int b, int i) {
        try {
            return desk.name(b, i);
        } catch (java.util.NoSuchElementException none) {
            return -1;
        }
    }
}
