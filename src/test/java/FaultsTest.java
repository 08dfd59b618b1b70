/** Texts with a FAULT, or just without one, with the FAULT and the place that the document asks for. */
public final class FaultsTest {
    public static void main(String[] args) {
        form();
        names();
        twice();
        wholes();
        many();
        good();
        firstBytes();
        Check.end();
    }

    private static void bad(String text, int fault, int place) {
        Check.bad(text, fault, place);
    }

    private static void fine(String text, int blocks) {
        Check.fine(text, blocks);
    }

    private static void form() {
        bad("", 1, 0);
        bad("   ", 1, 3);
        bad("x", 1, 1);
        bad("x  ", 1, 3);
        bad("1 x", 1, 0);
        bad("x {a=1}", 1, 2);
        bad("x y 1 {a=1}", 1, 2);
        bad("x 1 a=1}", 1, 4);
        bad("x 1 {a=1", 1, 8);
        bad("x 1 {a=1;}", 1, 9);
        bad("x 1 {;a=1}", 1, 5);
        bad("x 1 {}", 1, 5);
        bad("x 1 {a}", 1, 6);
        bad("x 1 {a 1}", 1, 7);
        bad("x 1 {a==1}", 1, 7);
        bad("x 1 {a=}", 1, 7);
        bad("x 1 {a=1+}", 1, 9);
        bad("x 1 {a=-1}", 1, 7);
        bad("x 1 {a=~}", 1, 8);
        bad("x 1 {a=()}", 1, 8);
        bad("x 1 {a=(1}", 1, 9);
        bad("x 1 {a=(1;b=2)}", 1, 9);
        bad("x 1 {a=1)}", 1, 8);
        bad("x 1 {a=(1))}", 1, 10);
        bad("x 1 {a=1 b}", 1, 9);
        bad("x 1 {a=1~2}", 1, 8);
        bad("x 1 {a=1+2-3}", 1, 10);
        bad("x 1 {a=1<2+3}", 1, 10);
        bad("x 1 {a=(1+2)*3+4}", 1, 14);
        bad("x 1 {a=1*(1+2)+4}", 1, 14);
        bad("x 1 {if =1}", 1, 8);
        bad("x 1 {if a =1}", 1, 10);
        bad("x 1 {if 1 a=1}", 1, 8);
        bad("x 1 {a=1} }", 1, 10);
        bad("x 1 {a=1} 7", 1, 10);
        bad("x 1 {a=1} y", 1, 11);
        bad("x 1 {a=1}\ty 1 {a=1}", 1, 9);
        bad("x 1 {a=1}\r", 1, 9);
        bad("X 1 {a=1}", 1, 0);
        bad("x 1 {a=B}", 1, 7);
        bad("x 1 {a=1>2}", 1, 8);
        bad("x 1 {a=1\u00e4}", 1, 8);
        bad("abcdefghi 1 {a=1}", 1, 0);
        bad("x 000001 {a=1}", 1, 2);
        bad("x 1 {a=123456}", 1, 7);
        bad("x 1 {a=abcdefghi}", 1, 7);
        bad("x 1 {aaaaaaaaa=1}", 1, 5);
        // a byte that begins no TOKEN is met where it stands, not ahead of an earlier FAULT
        bad("x 0 {a=!}", 4, 2);
    }

    private static void names() {
        bad("x 1 {i=1}", 2, 5);
        bad("x 1 {aa=1}", 2, 5);
        bad("x 1 {a=i}", 2, 7);
        bad("x 1 {a=if}", 2, 7);
        bad("x 1 {a=b+if}", 2, 9);
        bad("x 1 {a=~z}", 2, 8);
        bad("x 1 {a=(z)}", 2, 8);
        bad("x 1 {if z a=1}", 2, 8);
        bad("x 1 {if if a=1}", 2, 8);
        bad("x 1 {if a if=1}", 2, 10);
        bad("x 1 {if a if b=1}", 2, 10);
        bad("x 1 {if a z=1}", 2, 10);
        bad("x 1 {iff a=1}", 2, 5);
        bad("x 1 {a=1;zz=1}", 2, 9);
    }

    private static void twice() {
        bad("x 1{a=1}x", 3, 8);
        bad("x 1{a=1}y 1{a=1}x 99{", 3, 16);
        bad("abcdefgh 1{a=1}abcdefgh 1{a=1}", 3, 15);
        fine("abcdefgh 1{a=1}abcdefgi 1{a=1}abcdefg 1{a=1}", 3);
        // a thirteenth whose name has been: both at one place, the least number is told
        bad(blocks(12) + "l 1{a=1}", 3, 96);
    }

    private static void wholes() {
        bad("x 0{a=1}", 4, 2);
        bad("x 00000{a=1}", 4, 2);
        bad("x 51{a=1}", 4, 2);
        bad("x 99999{a=1}", 4, 2);
        bad("x 1{a=65536}", 4, 6);
        bad("x 1{a=b+~99999}", 4, 9);
        fine("x 1{a=65535}", 1);
        fine("x 50{a=00000}", 1);
        fine("x 00050{a=0}", 1);
    }

    private static String blocks(int n) {
        return Check.blocks(n);
    }

    private static void many() {
        fine(blocks(12), 12);
        bad(blocks(13), 5, 96);
        bad(blocks(12) + "z", 5, 96);
        bad(blocks(12) + "7", 1, 96);
        String eight = "x 1{" + "a=1;".repeat(7) + "a=1";
        fine(eight + "}", 1);
        fine(eight + "}y 1{" + "b=2;".repeat(7) + "b=2}", 2);
        bad(eight + ";a=1}", 5, 36);
        bad(eight + ";if a a=1}", 5, 36);
        bad(eight + "; if", 5, 37);
        bad(eight + ";}", 1, 36);
        bad(eight + ";1}", 1, 36);
        bad(eight + ";", 1, 36);
        bad(eight + ";z=1}", 2, 36);
        bad(eight + ";!", 1, 36);
        fine("x 1{a=" + "~".repeat(120) + "b}", 1);
        bad("x 1{a=" + "~".repeat(121) + "b}", 5, 126);
        fine("x 1{a=b" + "+b".repeat(120) + "}", 1);
        bad("x 1{a=b" + "+b".repeat(121) + "}", 5, 247);
        bad("x 1{a=b" + "+b".repeat(120) + "-b}", 1, 247);
        bad("x 1{a=b" + "+b".repeat(120) + "+", 5, 247);
        bad("x 1{a=b" + "+b".repeat(120) + "+~b}", 5, 247);
        bad("x 1{a=b" + "+b".repeat(119) + "+~b}", 5, 246);
        String full = "x 1{a=" + "~".repeat(119) + "b;if a b=1";
        fine(full + "}", 1);
        bad(full + "+1}", 5, full.length());
        bad(full + ";if a c=1}", 5, full.length() + 1);
        bad(full + "}y 1{if a c=1}", 5, full.length() + 5);
        bad(full + "}y 1{c=1;d=c&1}", 5, full.length() + 12);
        // a ninth LINE and a 121st OP at one if
        bad("x 1{a=" + "~".repeat(120) + "b" + ";a=1".repeat(7) + ";if", 5, 156);
        fine("x 1{a=" + "(".repeat(8) + "1" + ")".repeat(8) + "}", 1);
        bad("x 1{a=" + "(".repeat(9), 5, 14);
        fine("x 1{a=" + "((((1))))+".repeat(3) + "((((((((2))))))))}", 1);
        bad("x 1{a=1+((((2+(((3+(4))))+(((((5", 5, 30);
        bad("x 1{a=~(~(~(~(~(~(~(~(~(", 5, 23);
    }

    private static void good() {
        fine("x1{a=1}", 1);
        fine("x1{a=1}y2{ifa b=c}".replace("ifa", "if a"), 2);
        fine("if 1{if a if1=1}".replace("if1", "b"), 1);
        fine("\n x\n1\n{\na\n=\n1\n}\n ", 1);
        fine("a 1{a=a-b-c;if h g=(a*b*c)<(d|e|f)<~~g;h=((1))}", 1);
        // WORDS and WHOLES part from one another by themselves
        bad("x1{ifa b=1}", 2, 3);
        bad("x1{a=1b}", 1, 6);
    }

    /** Only the first n bytes are read, though they end within a WORD or a WHOLE. */
    private static void firstBytes() {
        HalfGates desk = new HalfGates();
        // "x 11{a=1}yyyyyyyyyyy"
        int[] f = {0x78203131, 0x7B613D31, 0x7D797979, 0x79797979, 0x79797979};
        int[][] want = {{1, 1}, {3, 3}, {10, 10}, {17, 17}, {18, 9}};
        for (int[] w : want) {
            desk.feed(f[0], f[1], f[2], f[3], f[4]);
            Check.due("program " + w[0], desk.program(w[0]), -1);
            Check.due("fault of " + w[0] + " bytes", desk.fault(), 1);
            Check.due("where of " + w[0] + " bytes", desk.where(), w[1]);
        }
        desk.feed(f[0], f[1], f[2], f[3], f[4]);
        Check.due("program 9", desk.program(9), 1);
        // 600 bytes that are each a TOKEN: 3 BLOCKS of 163, one of 103 and 8 times ~
        String line = "a=((((((((b))))))))";
        String lines = (line + ";").repeat(7) + line + "}";
        String most = "x1{" + lines + "y1{" + lines + "z1{" + lines + "u1{" + (line + ";").repeat(4) + "a=~~~~~~~~((((((((b))))))))}";
        Check.due("bytes", most.length(), 600);
        fine(most, 4);
        bad(most.substring(0, 599) + "+", 1, 600);
        bad("(".repeat(600), 1, 0);
        bad("x1{a=1;" + " ".repeat(593), 1, 600);
    }
}
