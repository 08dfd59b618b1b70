/** Term II, the text block FAULTS: each number at its place, and which is told of several. */
public final class Term2FaultsTest {
    public static void main(String[] args) {
        Sentences.test(Term2FaultsTest.class);
    }

    private static void bad(String text, int fault, int place) {
        Check.bad(text, fault, place);
    }

    @Says(at = "Term II", words = "FAULTS, the first that is met from the left")
    static void theFirstMetFromTheLeft() {
        bad("x0{i=70000!", 4, 1);
        bad("x1{i=70000!", 2, 3);
        bad("x1{a=70000!", 4, 5);
        bad("x1{a=1!70000", 1, 6);
        bad("x1{a=1}x0{", 3, 7);
        bad("x1{a=1}y0{i=1}x1{", 4, 8);
        bad("x1{a=1}y1{i=1}x0{", 2, 10);
        bad("x1{a=" + "(".repeat(9) + "i", 5, 13);
        bad("x1{a=i+" + "(".repeat(9), 2, 5);
        // a byte amiss far behind doesn't come first
        bad("x1{a=1}x1{a=1}" + (char) 255, 3, 7);
    }

    @Says(at = "Term II", words = "of one place the least number:")
    static void ofOnePlaceTheLeastNumber() {
        // TWICE and MANY
        bad(Check.blocks(12) + "a 1{a=1}", 3, 96);
        // FORM and MANY: an unlike SIGN, a ~ behind a PART and a ( behind a PART, each being one too many
        bad("x1{a=b" + "+b".repeat(120) + "-b}", 1, 246);
        bad("x1{a=b" + "+b".repeat(120) + "~b}", 1, 246);
        bad("x1{a=" + "(".repeat(8) + "b(", 1, 14);
        // FORM and a WORD that is no NAME; FORM and a WHOLE beyond
        bad("x1{a=zzzzzzzzz}", 1, 5);
        bad("x1{a=999999}", 1, 5);
        bad("x 999999{a=1}", 1, 2);
        // FORM and TWICE: the second of a name that is no WORD
        bad("azazazaz1{a=1}azazazaza1{a=1}", 1, 14);
        // FORM and MANY at a 13th name; FORM or no NAME and MANY at a ninth LINE
        bad(Check.blocks(12) + "azazazaza", 1, 96);
        String eight = "x1{" + "a=1;".repeat(8);
        bad(eight + "}", 1, 35);
        bad(eight + "zzzzzzzzz", 1, 35);
        bad(eight + "z=1}", 2, 35);
    }

    @Says(at = "Term II", words = "1 FORM: the first byte that begins no TOKEN,")
    static void formAtTheFirstByteThatBeginsNoToken() {
        String[] ahead = {"", "x", "x1", "x1{", "x1{if", "x1{if ", "x1{if a ", "x1{a", "x1{a=", "x1{a=(", "x1{a=~", "x1{a=b",
            "x1{a=b+", "x1{a=(b", "x1{a=(b)", "x1{a=b;", "x1{a=b}", "x1{a=b} "};
        for (String s : ahead) {
            for (String c : new String[] {"!", "\"", "#", "$", "%", "'", ",", ".", "/", ":", ">", "?", "@", "A", "[", "\\", "]",
                "_", "`", "\t", "\r", "\u0000", "\u007f", "\u0080", "\u00ff"}) {
                bad(s + c, 1, s.length());
                bad(s + c + c, 1, s.length());
            }
        }
    }

    /** A text that goes on to a state of the grammar, and the TOKENS that may stand there. */
    private static final String[][] STATES = {
        {"", "W"}, {"x", "1"}, {"x1", "{"}, {"x1{", "aF"}, {"x1{if", "a"}, {"x1{if a", "a"}, {"x1{if a b", "="},
        {"x1{a", "="}, {"x1{a=", "a1~("}, {"x1{a=~", "a1~("}, {"x1{a=(", "a1~("}, {"x1{a=b*", "a1~("}, {"x1{a=b*(", "a1~("},
        {"x1{a=b", "+-*&|^<;}"}, {"x1{a=7", "+-*&|^<;}"}, {"x1{a=b*c", "*;}"}, {"x1{a=(b)", "+-*&|^<;}"},
        {"x1{a=(b", "+-*&|^<)"}, {"x1{a=(b<c", "<)"}, {"x1{a=d-(b", "+-*&|^<)"}, {"x1{a=d-(b+c)", "-;}"},
        {"x1{a=b;", "aF"}, {"x1{a=b}", "W"}};
    private static final String[] TOKENS = {"a", "if", "zz", "1", "{", "}", ";", "=", "(", ")", "+", "-", "*", "&", "|",
        "^", "~", "<"};

    @Says(at = "Term II", words = "or TOKEN with which no PROGRAM goes on")
    static void formAtATokenWithWhichNoProgramGoesOn() {
        for (String[] state : STATES) {
            for (String token : TOKENS) {
                String text = state[0] + " " + token;
                int place = state[0].length() + 1;
                boolean word = Character.isLetter(token.charAt(0));
                boolean aWord = state[1].contains("W");
                boolean aName = state[1].contains("a");
                boolean anIf = state[1].contains("F") && token.equals("if");
                boolean stands = word ? aWord || aName && token.equals("a") || anIf : state[1].contains(token);
                if (!stands) {
                    bad(text, word && aName ? 2 : 1, place);
                } else if (token.equals("}")) {
                    Check.fine(text, 1);
                } else {
                    bad(text, 1, text.length());
                }
            }
        }
    }

    @Says(at = "Term II", words = "(the end: its place).")
    static void formAtTheEndIsItsPlace() {
        String text = "xy 12 {a=~(b+34);\nc=5}";
        for (int n = 0; n < text.length(); n++) {
            HalfGates desk = new HalfGates();
            Check.feed(desk, text);
            Check.due("program of " + n + " bytes", desk.program(n), -1);
            Check.due("fault of " + n + " bytes", desk.fault(), 1);
            Check.due("where of " + n + " bytes", desk.where(), n);
        }
        Check.fine(text, 1);
        // behind blanks the end is where the bytes end
        bad("x1{a=1   ", 1, 9);
        bad(" ".repeat(600), 1, 600);
        bad("x1{a=1" + "\n".repeat(594), 1, 600);
    }

    @Says(at = "Term II", words = "2 a WORD that is no NAME where one is to be")
    static void noNameWhereOneIsToBe() {
        for (String word : new String[] {"i", "z", "aa", "ab", "hh", "zzzzzzzz", "aaaaaaaa"}) {
            bad("x1{" + word + "=1}", 2, 3);
            bad("x1{a=1;" + word + "=1}", 2, 7);
            bad("x1{if " + word + " a=1}", 2, 6);
            bad("x1{if a " + word + "=1}", 2, 8);
            bad("x1{a=" + word + "}", 2, 5);
            bad("x1{a=~" + word + "}", 2, 6);
            bad("x1{a=(" + word + ")}", 2, 6);
            bad("x1{a=b+" + word + "}", 2, 7);
            bad("x1{a=  " + word, 2, 7);
        }
        // where none is to be it is FORM
        bad("x zz", 1, 2);
        bad("x1{a zz", 1, 5);
        bad("x1{a=b zz", 1, 7);
    }

    @Says(at = "Term II", words = "(if where a LINE begins is if); at it.")
    static void ifWhereALineBeginsIsIf() {
        Check.fine("x1{if a b=1;if c d=1}", 1);
        Check.fine("if 1{if a b=1}", 1);
        bad("x1{if if a=1}", 2, 6);
        bad("x1{if a if=1}", 2, 8);
        bad("x1{if a if b=1}", 2, 8);
        bad("x1{a=if}", 2, 5);
        bad("x1{a=~if}", 2, 6);
        bad("x1{a=b+if}", 2, 7);
        bad("x1{if=1}", 1, 5);
        bad("x1{ifa b=1}", 2, 3);
        bad("x1{iff a b=1}", 2, 3);
        bad("x1{i a b=1}", 2, 3);
        bad("x1{f i=1}", 1, 5);
        // a BLOCK named if doesn't make its first LINE begin with one
        bad("if1{;", 1, 4);
        bad("if1{1", 1, 4);
        bad("if1{}", 1, 4);
        bad("if1{i=1}", 2, 4);
    }

    @Says(at = "Term II", words = "3 TWICE: a BLOCK's name; at the second.")
    static void twiceABlocksName() {
        bad("x1{a=1}x1{a=1}", 3, 7);
        bad("x1{a=1} x", 3, 8);
        bad("x1{a=1}y1{a=1}x", 3, 14);
        bad("x1{a=1}y1{a=1}y", 3, 14);
        bad("azazazaz1{a=1}azazazaz", 3, 14);
        bad(Check.blocks(11) + "k", 3, 88);
        // unlike in the last letter, in the first, in length
        Check.fine("azazazaz1{a=1}azazazay1{a=1}bzazazaz1{a=1}azazaza1{a=1}", 4);
        Check.fine("x1{a=1}xx1{a=1}xxx1{a=1}", 3);
        // the name of a former PROGRAM is none of this one, whether that one had a FAULT or not
        HalfGates desk = Check.desk("x1{a=1}y1{a=1}");
        Check.due("the same names anew", Check.tell(desk, "y1{a=1}x1{a=1}"), 2);
        Check.due("a FAULT", Check.tell(desk, "u1{a=1}v1{a"), -1);
        Check.due("its names anew", Check.tell(desk, "v1{a=1}u1{a=1}"), 2);
    }

    @Says(at = "Term II", words = "4 a WHOLE beyond what it may be; at it.")
    static void wholeBeyondWhatItMayBe() {
        Check.fine("x1{a=1}", 1);
        Check.fine("x50{a=1}", 1);
        bad("x0{a=1}", 4, 1);
        bad("x51{a=1}", 4, 1);
        bad("x 99999", 4, 2);
        Check.fine("x1{a=0}", 1);
        Check.fine("x1{a=65535}", 1);
        bad("x1{a=65536}", 4, 5);
        bad("x1{a=b&~(65536", 4, 9);
        // by what it is told, not by the WIDTH
        HalfGates desk = new HalfGates();
        desk.set(4, 40, 3);
        Check.due("65535 at 4", Check.tell(desk, "x1{a=65535}"), 1);
        desk.set(16, 40, 3);
        Check.due("65536 at 16", Check.tell(desk, "x1{a=65536}"), -1);
        Check.due("its fault", desk.fault(), 4);
    }

    @Says(at = "Term II", words = "5 MANY: a 13th BLOCK (at its WORD),")
    static void manyA13thBlock() {
        Check.fine(Check.blocks(12) + " \n", 12);
        bad(Check.blocks(12) + "m", 5, 96);
        bad(Check.blocks(12) + "  m 0", 5, 98);
        bad(Check.blocks(14), 5, 96);
        bad(Check.blocks(12) + "1", 1, 96);
        bad(Check.blocks(12) + "{", 1, 96);
    }

    @Says(at = "Term II", words = "a ninth LINE (at its first TOKEN, if it may stand there, else 1, 2),")
    static void manyANinthLine() {
        String eight = "x1{" + "a=1;".repeat(7) + "a=1";
        Check.fine(eight + "}", 1);
        for (String first : new String[] {"a", "h", "if", "a=1}", "if a b=1}", "a!", "if 1"}) {
            bad(eight + ";" + first, 5, 35);
            bad(eight + "; \n" + first, 5, 37);
        }
        for (String first : new String[] {"", "}", ";", "1", "=", "(", "~", "!", "zzzzzzzzz"}) {
            bad(eight + ";" + first, 1, 35);
        }
        for (String first : new String[] {"z", "iff", "i", "zzzzzzzz"}) {
            bad(eight + ";" + first, 2, 35);
        }
        // the LINES of a former text don't count, whether it had a FAULT or not
        HalfGates desk = new HalfGates();
        Check.due("a ninth LINE", Check.tell(desk, eight + ";a=1}"), -1);
        for (int i = 0; i < 3; i++) {
            Check.due("eight LINES behind it", Check.tell(desk, eight + "}y1{" + eight.substring(3) + "}"), 2);
            Check.due("LINES", desk.block(0, 1), 8);
            Check.due("LINES of the next", desk.block(1, 1), 8);
        }
        Check.due("one LINE behind them", Check.tell(desk, "x1{a=1}y1{a=1}z1{a=1}"), 3);
        Check.due("LINES", desk.block(0, 1), 1);
    }

    @Says(at = "Term II", words = "a 121st OP (at its sign, or if),")
    static void manyA121stOp() {
        String full = "x1{a=" + "~".repeat(120) + "b";
        Check.fine(full + "}", 1);
        for (String sign : new String[] {"+", "-", "*", "&", "|", "^", "<"}) {
            bad(full + sign, 5, 126);
            bad(full + "; c=d  " + sign + "e}", 5, 133);
        }
        bad(full + ";c=~d}", 5, 129);
        bad(full + ";c=(~", 5, 130);
        bad(full + ";if c d=1}", 5, 127);
        bad(full + ";if", 5, 127);
        bad(full + ";if 1", 5, 127);
        bad(full + "}y1{if c d=1}", 5, 130);
        // LINES and BLOCKS without an OP may still come
        Check.fine(full + ";c=(d)}y9{e=7}", 2);
    }

    @Says(at = "Term II", words = "a ninth ( open.")
    static void manyANinthOpen() {
        String eight = "x1{a=" + "(".repeat(8);
        bad(eight, 1, 13);
        bad(eight + "(", 5, 13);
        bad(eight + "  (", 5, 15);
        bad(eight + "~(", 5, 14);
        bad(eight + "b+(", 5, 15);
        bad(eight + "b)+((", 5, 17);
        bad(eight + ")", 1, 13);
        // a FAULT within ( leaves none open for the next text
        HalfGates desk = new HalfGates();
        Check.due("a FAULT with eight open", Check.tell(desk, eight), -1);
        Check.due("a good one behind it", Check.tell(desk, eight + "b" + ")".repeat(8) + "}"), 1);
        Check.due("a FAULT behind ~ and SIGN", Check.tell(desk, "x1{a=b+~"), -1);
        Check.due("a good one behind it", Check.tell(desk, "x1{a=b-c}"), 1);
        Check.due("its OPS", desk.count(5), 1);
        Check.due("the OPS of its BLOCK", desk.block(0, 2), 1);
        desk.put(1, 9);
        desk.put(2, 3);
        desk.once(0, true);
        Check.due("9 - 3, with nothing of the former SUM", desk.get(0), 6);
        Check.due("a FAULT behind ( and ~", Check.tell(desk, "x1{a=b+(c-~"), -1);
        Check.due("a good one behind it", Check.tell(desk, "x1{a=b&(c|8)}"), 1);
        Check.due("the OPS of its BLOCK", desk.block(0, 2), 2);
        desk.once(0, true);
        Check.due("9 & (3 | 8), with nothing of the former SUM", desk.get(0), 9);
    }
}
