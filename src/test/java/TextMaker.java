import java.util.Random;

/** Makes texts of PROGRAMS from a seed: good ones of every size up to the bounds, and such with a byte amiss. */
final class TextMaker {
    private static final String SIGNS = "+-*&|^<";
    private final Random random;
    private final StringBuilder text = new StringBuilder();
    private int ops;

    TextMaker(long seed) {
        random = new Random(seed);
    }

    private int below(int n) {
        return random.nextInt(n);
    }

    private void blank() {
        int n = below(12);
        text.append(n == 0 ? " " : n == 1 ? "\n" : n == 2 ? "  " : "");
    }

    /** A text of at most 600 bytes; it is a good PROGRAM if the parts asked for are within the bounds. */
    String program(int blocks, int mostLines, int size) {
        String good = "x 1{a=1}";
        ops = 0;
        text.setLength(0);
        for (int b = 0; b < blocks; b++) {
            text.append((char) ('a' + b % 26)).append("xyzuvwq", 0, below(8)).append(below(3) == 0 ? " " : "");
            text.append(1 + below(below(4) == 0 ? 50 : 5));
            blank();
            text.append('{');
            int lines = 1 + below(mostLines);
            for (int i = 0; i < lines; i++) {
                text.append(i == 0 ? "" : ";");
                blank();
                line(size);
            }
            text.append('}');
            blank();
            if (text.length() > 600 || ops > 120) {
                return good;
            }
            good = text.toString();
        }
        return good;
    }

    private void line(int size) {
        if (below(4) == 0) {
            ops++;
            text.append("if ").append(name()).append(' ');
        }
        text.append(name());
        blank();
        text.append('=');
        sum(size, 0);
    }

    private char name() {
        return (char) ('a' + below(below(2) == 0 ? 3 : 8));
    }

    private void sum(int size, int open) {
        char sign = SIGNS.charAt(below(7));
        part(size, open);
        int more = below(size + 1);
        for (int i = 0; i < more; i++) {
            blank();
            ops++;
            text.append(sign);
            part(size - 1, open);
        }
    }

    private void part(int size, int open) {
        blank();
        while (below(6) == 0) {
            ops++;
            text.append('~');
        }
        if (open < 8 && size > 0 && below(4) == 0) {
            text.append('(');
            sum(size - 1, open + 1);
            text.append(')');
        } else if (below(3) == 0) {
            text.append(below(3) == 0 ? below(65536) : below(9));
        } else {
            text.append(name());
        }
    }

    /** The text with one to three bytes put in, taken out or made another. */
    String spoilt(String good) {
        StringBuilder s = new StringBuilder(good);
        String bytes = "{};=()+-*&|^~<abghizf 019\nA!\u00ff\u0000";
        int faults = 1 + below(3);
        for (int i = 0; i < faults && s.length() > 0; i++) {
            int at = below(s.length());
            char c = bytes.charAt(below(bytes.length()));
            switch (below(4)) {
                case 0 -> s.deleteCharAt(at);
                case 1 -> s.setCharAt(at, c);
                case 2 -> s.insert(at, c);
                default -> s.insert(at, s.substring(at, Math.min(s.length(), at + 1 + below(20))));
            }
        }
        return s.length() > 600 ? s.substring(0, 600) : s.toString();
    }
}
