import java.nio.charset.StandardCharsets;

/** Term II, TEXTS: where TOKENS begin and end, and what each may be followed by. */
public final class Term2TextsTest {
    private static final String SIGNS = "+-*&|^<";

    public static void main(String[] args) {
        Sentences.test(Term2TextsTest.class);
    }

    private static void due(String call, long got, long want) {
        Check.due(call, got, want);
    }

    private static void fine(String text) {
        Check.fine(text, 1);
    }

    private static void bad(String text, int fault, int place) {
        Check.bad(text, fault, place);
    }

    private static String oneByte(int c) {
        return new String(new byte[] {(byte) c}, StandardCharsets.ISO_8859_1);
    }

    /** What h is behind h = SUM at WIDTH 8, a being 9, b 3, c 2. */
    private static int worth(String sum) {
        HalfGates desk = Check.desk("x1{h=" + sum + "}");
        desk.put(0, 9);
        desk.put(1, 3);
        desk.put(2, 2);
        desk.once(0, false);
        return desk.get(7);
    }

    @Says(at = "Term II", words = "TEXTS (THE TAPE has 600 bytes")
    static void tapeHas600Bytes() {
        // 600 bytes, each a TOKEN of its own but for blanks
        String line = "a=((((((((b))))))))";
        String lines = (line + ";").repeat(7) + line + "}";
        String most = "x1{" + lines + "y1{" + lines + "z1{" + lines + "u1{" + (line + ";").repeat(4)
            + "a=~~~~~~~~((((((((b))))))))}";
        due("bytes", most.length(), 600);
        Check.fine(most, 4);
        HalfGates desk = new HalfGates();
        Check.feed(desk, most);
        due("tape", desk.count(4), 600);
        due("feed beyond it", desk.feed(0, 0, 0, 0, 0), -1);
        due("tape behind that", desk.count(4), 600);
        due("the program", desk.program(600), 4);
        Check.bad("x1{a=1}" + " ".repeat(592) + "!", 1, 599);
        Check.fine("x1{a=1" + " ".repeat(593) + "}", 1);
    }

    @Says(at = "Term II", words = "blanks, 32, and 10s part TOKENS and mean nothing else")
    static void blanksPartTokensAndMeanNothingElse() {
        fine(" \n x \n 1 \n { \n if \n a \n b \n = \n ~ \n ( \n c \n + \n 2 \n ) \n } \n ");
        fine("x1{if a b=~(c+2)}");
        due("worth with blanks", worth(" ~ \n~ a"), worth("~~a"));
        // they part what would be one TOKEN
        bad("x1{a a=1}", 1, 5);
        bad("x1{a\na=1}", 1, 5);
        bad("x1{a=1 1}", 1, 7);
        bad("x1{a=1\n1}", 1, 7);
        bad("x1{i f a=1}", 2, 3);
        bad("x y 1{a=1}", 1, 2);
        // no other byte does
        for (int c : new int[] {0, 9, 11, 12, 13, 31, 33, 127, 133, 160, 255}) {
            bad("x" + oneByte(c) + "1{a=1}", 1, 1);
            bad("x1{a=1}" + oneByte(c), 1, 7);
            bad(oneByte(c) + "x1{a=1}", 1, 0);
        }
    }

    @Says(at = "Term II", words = "TOKENS: WORDS of 1 to 8 small letters that stand together")
    static void wordsOf1To8SmallLetters() {
        for (int n = 1; n <= 8; n++) {
            HalfGates desk = Check.desk("azazazaz".substring(0, n) + " 1{a=1}");
            due("last letter of " + n, Check.nameByte(desk, 0, n - 1), n % 2 == 0 ? 'z' : 'a');
            due("none behind " + n, Check.nameByte(desk, 0, n), -1);
        }
        StringBuilder twelve = new StringBuilder();
        for (char c = 'a'; c < 'm'; c++) {
            twelve.append("zyxwvut").append(c).append("1{a=1}");
        }
        HalfGates most = Check.desk(twelve.toString());
        for (int b = 0; b < 12; b++) {
            due("the first of eight letters of " + b, Check.nameByte(most, b, 0), 'z');
            due("the last of eight letters of " + b, Check.nameByte(most, b, 7), 'a' + b);
            due("none behind eight letters of " + b, Check.nameByte(most, b, 8), -1);
        }
        bad("azazazaza 1{a=1}", 1, 0);
        bad("x1{a=1} azazazaza 1{a=1}", 1, 8);
        bad("azazazaz a 1{a=1}", 1, 9);
        // the bytes beside a and z, and the great letters
        for (String c : new String[] {"`", "A", "Z", "[", "@", "_"}) {
            bad(c + " 1{a=1}", 1, 0);
            bad("x" + c + " 1{a=1}", 1, 1);
        }
        bad("x{1{a=1}", 1, 1);
        // a WORD too long is no WORD, not one that is no NAME
        bad("x1{abcdefghi=1}", 1, 3);
        bad("x1{abcdefgh=1}", 2, 3);
        bad("x1{a=abcdefghi}", 1, 5);
        bad("x1{a=abcdefgh}", 2, 5);
    }

    @Says(at = "Term II", words = "WHOLES of 1 to 5 digits that do")
    static void wholesOf1To5Digits() {
        String[] wholes = {"7", "07", "007", "0007", "00007"};
        for (String w : wholes) {
            due("often of " + w, Check.desk("x " + w + "{a=1}").block(0, 0), 7);
            due("worth of " + w, worth(w), 7);
        }
        bad("x 000007{a=1}", 1, 2);
        bad("x1{a=000007}", 1, 5);
        bad("x1{a=b+100000}", 1, 7);
        bad("x1{a=" + "9".repeat(100) + "}", 1, 5);
        bad("x1{a=4294967296}", 1, 5);
        bad("x1{a=00000 0}", 1, 11);
        due("every digit", worth("10000+2345+6789"), (10000 + 2345 + 6789) % 256);
        // the bytes beside 0 and 9
        bad("x1{a=/}", 1, 5);
        bad("x1{a=:}", 1, 5);
        bad("x1{a=1/}", 1, 6);
        bad("x1{a=1:}", 1, 6);
    }

    @Says(at = "Term II", words = "single ones of { } ; = ( ) + - * & | ^ ~ < )")
    static void singleOnes() {
        // each byte behind a PART: some go on, so that it is the } behind them with which no PROGRAM does
        for (int c = 0; c < 256; c++) {
            String text = "x1{a=1" + oneByte(c) + "}";
            if (c >= '0' && c <= '9' || c == ' ' || c == 10) {
                fine(text);
            } else {
                boolean goesOn = SIGNS.indexOf(c) >= 0 || c == ';' || c == '}';
                bad(text, 1, goesOn ? 7 : 6);
            }
        }
        // each byte where a PART is to be: the small letters i .. z are WORDS that are no NAME
        for (int c = 0; c < 256; c++) {
            String text = "x1{a=" + oneByte(c) + "}";
            if (c >= '0' && c <= '9' || c >= 'a' && c <= 'h') {
                fine(text);
            } else if (c >= 'i' && c <= 'z') {
                bad(text, 2, 5);
            } else {
                boolean goesOn = c == '(' || c == '~' || c == ' ' || c == 10;
                bad(text, 1, goesOn ? 6 : 5);
            }
        }
    }

    @Says(at = "Term II", words = "PROGRAM: BLOCK {BLOCK}.")
    static void programIsOneBlockOrMore() {
        bad("", 1, 0);
        bad(" ", 1, 1);
        Check.fine("x1{a=1}", 1);
        Check.fine("x1{a=1}y1{a=1}", 2);
        Check.fine("x1{a=1} y1{a=1}\nz1{a=1}", 3);
        bad("x1{a=1};y1{a=1}", 1, 7);
        bad("x1{a=1}}", 1, 7);
    }

    @Says(at = "Term II", words = {"BLOCK: WORD WHOLE { LINE {; LINE} }", "the braces stand in the text"})
    static void blockIsWordWholeBracesAndLines() {
        fine("x1{a=1}");
        fine("x1{a=1;b=2}");
        bad("1{a=1}", 1, 0);
        bad("x{a=1}", 1, 1);
        bad("x1 a=1}", 1, 3);
        bad("x1(a=1)", 1, 2);
        bad("x1{}", 1, 3);
        bad("x1{;}", 1, 3);
        bad("x1{a=1;}", 1, 7);
        bad("x1{a=1;;b=2}", 1, 7);
        bad("x1{a=1 b=2}", 1, 7);
        bad("x1{a=1", 1, 6);
        bad("x1{a=1;b=2", 1, 10);
        bad("x1{{a=1}}", 1, 3);
    }

    @Says(at = "Term II", words = "the WORD is its name, the WHOLE, 1 .. 50, how often it is done")
    static void wholeOfABlock1To50() {
        for (int often : new int[] {1, 2, 49, 50}) {
            HalfGates desk = Check.desk("x " + often + "{a=a+1}");
            due("name", desk.name(0, 0), 'x');
            due("often", desk.block(0, 0), often);
            desk.run(0);
            due("done so often", desk.get(0), often);
        }
        for (String often : new String[] {"0", "51", "00000", "00051", "100", "99999", "65536"}) {
            bad("x " + often + "{a=a+1}", 4, 2);
        }
        // a name may be a NAME or if
        Check.fine("a1{a=1}h1{a=1}if 1{a=1}", 3);
    }

    @Says(at = "Term II", words = "LINE: [if NAME] NAME = SUM.")
    static void lineWithAndWithoutIf() {
        fine("x1{a=b}");
        fine("x1{if c a=b}");
        fine("x1{if a a=a}");
        bad("x1{if a=b}", 1, 7);
        bad("x1{if a b c=1}", 1, 10);
        bad("x1{a if b=1}", 1, 5);
        bad("x1{a}", 1, 4);
        bad("x1{a=}", 1, 5);
        bad("x1{=1}", 1, 3);
        bad("x1{a=b=c}", 1, 6);
        bad("x1{if}", 1, 5);
        bad("x1{if a}", 1, 7);
    }

    @Says(at = "Term II", words = "SUM: PART {SIGN PART}, from the left, all SIGNS alike (+ - * & | ^ <).")
    static void sumFromTheLeftAllSignsAlike() {
        due("9 - 3 - 2", worth("a-b-c"), 4);
        due("9 - (3 - 2)", worth("a-(b-c)"), 8);
        due("3 < 2 < 1", worth("3<2<1"), 1);
        due("3 < (2 < 1)", worth("3<(2<1)"), 0);
        due("a PART alone", worth("a"), 9);
        int[] worths = {12, 6, 27, 1, 11, 10, 0};
        for (int i = 0; i < SIGNS.length(); i++) {
            char sign = SIGNS.charAt(i);
            due("9 " + sign + " 3", worth("a" + sign + "b"), worths[i]);
            for (int j = 0; j < SIGNS.length(); j++) {
                char other = SIGNS.charAt(j);
                String text = "x1{a=b" + sign + "c" + other + "d}";
                if (i == j) {
                    fine(text);
                } else {
                    bad(text, 1, 8);
                }
                // a SUM in ( ) has its own, ahead and behind
                fine("x1{a=(b" + sign + "c)" + other + "(d" + sign + "e)}");
                if (i != j) {
                    bad("x1{a=b" + sign + "(c" + other + "d)" + other + "e}", 1, 12);
                }
            }
        }
        bad("x1{a=+b}", 1, 5);
        bad("x1{a=b+}", 1, 7);
        bad("x1{a=b++c}", 1, 7);
        // LINES have their own, too
        fine("x1{a=b+c;a=b-c}");
    }

    @Says(at = "Term II", words = "PART: NAME, WHOLE (0 .. 65,535; taken by 2 to the WIDTH), ~ PART, ( SUM ).")
    static void partAndWholes0To65535() {
        String[] wholes = {"0", "1", "255", "256", "65534", "65535"};
        int[] at8 = {0, 1, 255, 0, 254, 255};
        for (int i = 0; i < wholes.length; i++) {
            due(wholes[i] + " at 8", worth(wholes[i]), at8[i]);
        }
        for (int w = 4; w <= 16; w++) {
            HalfGates desk = Check.desk("x1{a=65535;b=32768;c=16<17}");
            desk.set(w, 40, 3);
            desk.run(0);
            due("65535 at " + w, desk.get(0), (1 << w) - 1);
            due("32768 at " + w, desk.get(1), w == 16 ? 32768 : 0);
            due("16 < 17 at " + w, desk.get(2), 1);
        }
        for (String whole : new String[] {"65536", "65537", "70000", "99999"}) {
            bad("x1{a=" + whole + "}", 4, 5);
            bad("x1{a=(b+" + whole + ")}", 4, 8);
        }
        // ~ takes the PART alone, not the SUM behind it
        due("~9 + 3", worth("~a+b"), 249);
        due("~(9 + 3)", worth("~(a+b)"), 243);
        due("~~9", worth("~~a"), 9);
        due("9 + ~3", worth("a+~b"), 5);
        due("((9))", worth("((a))"), 9);
        bad("x1{a=()}", 1, 6);
        bad("x1{a=~}", 1, 6);
        bad("x1{a=(b}", 1, 7);
        bad("x1{a=b)}", 1, 6);
        bad("x1{a=b~c}", 1, 6);
        bad("x1{a=b(c)}", 1, 6);
    }

    @Says(at = "Term II", words = "NAME: a WORD that is one of a .. h.")
    static void nameIsOneOfAToH() {
        for (char c = 'a'; c <= 'z'; c++) {
            String[] texts = {"x1{" + c + "=1}", "x1{a=" + c + "}", "x1{if " + c + " a=1}", "x1{if a " + c + "=1}"};
            int[] places = {3, 5, 6, 8};
            for (int i = 0; i < 4; i++) {
                if (c <= 'h') {
                    fine(texts[i]);
                } else {
                    bad(texts[i], 2, places[i]);
                }
            }
        }
        bad("x1{aa=1}", 2, 3);
        bad("x1{a=ha}", 2, 5);
        bad("x1{if ab a=1}", 2, 6);
    }

    @Says(at = "Term II", words = "A < B is 1 or 0, as numbers from 0 on")
    static void lessThanAsNumbersFrom0On() {
        for (int w = 4; w <= 16; w++) {
            int most = (1 << w) - 1;
            int half = 1 << (w - 1);
            int[][] want = {{0, 0, 0}, {0, 1, 1}, {1, 0, 0}, {0, most, 1}, {most, 0, 0}, {most, most, 0},
                {most - 1, most, 1}, {half - 1, half, 1}, {half, half - 1, 0}, {half, 1, 0}, {1, half, 1}};
            HalfGates desk = Check.desk("x1{c=a<b}");
            desk.set(w, 40, 3);
            for (int[] v : want) {
                desk.put(0, v[0]);
                desk.put(1, v[1]);
                desk.put(2, -1);
                desk.once(0, true);
                due(v[0] + " < " + v[1] + " at " + w, desk.get(2), v[2]);
            }
        }
    }

    @Says(at = "Term II", words = "~ turns each bit.")
    static void tildeTurnsEachBit() {
        for (int w = 4; w <= 16; w++) {
            HalfGates desk = Check.desk("x1{b=~a}");
            desk.set(w, 40, 3);
            for (int bit = 0; bit < w; bit++) {
                desk.put(0, 1 << bit);
                desk.once(0, true);
                due("~ of bit " + bit + " at " + w, desk.get(1), (1 << w) - 1 - (1 << bit));
            }
        }
    }
}
