import java.nio.charset.StandardCharsets;

/** What the tests of this project share: counting answers, and telling a text to a desk. */
final class Check {
    private static int passed = 0;
    private static int failed = 0;

    private Check() {
    }

    static void due(String call, long got, long want) {
        if (got == want) {
            passed++;
            return;
        }
        failed++;
        System.out.println(call + " answered " + got + ", due is " + want);
    }

    static void due(String call, boolean got, boolean want) {
        due(call, got ? 1 : 0, want ? 1 : 0);
    }

    static void end() {
        System.out.println(passed + " passed, " + failed + " failed");
        if (failed > 0 || passed == 0) {
            System.exit(1);
        }
    }

    /** The feeds that bring a text, filled up with blanks to a multiple of twenty bytes. */
    static int[][] feeds(byte[] text) {
        int[][] feeds = new int[(text.length + 19) / 20][5];
        for (int i = 0; i < feeds.length * 20; i++) {
            int c = i < text.length ? text[i] & 255 : ' ';
            feeds[i / 20][i % 20 / 4] |= c << (24 - i % 4 * 8);
        }
        return feeds;
    }

    /** Feeds a text and calls program() with its length. */
    static int tell(HalfGates desk, String text) {
        byte[] bytes = text.getBytes(StandardCharsets.ISO_8859_1);
        for (int[] f : feeds(bytes)) {
            desk.feed(f[0], f[1], f[2], f[3], f[4]);
        }
        return desk.program(bytes.length);
    }

    static HalfGates desk(String text) {
        HalfGates desk = new HalfGates();
        if (tell(desk, text) < 0) {
            due("program of " + text, desk.fault(), 0);
        }
        return desk;
    }

    /** The byte of a name, or -1 where NoSuchElementException is thrown. */
    static int nameByte(HalfGates desk, int b, int i) {
        try {
            return desk.name(b, i);
        } catch (java.util.NoSuchElementException none) {
            return -1;
        }
    }
}
