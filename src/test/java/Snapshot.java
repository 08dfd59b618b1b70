/** All that a desk tells by calls that change nothing and can't be refused, as one text. */
final class Snapshot {
    private Snapshot() {
    }

    static String of(HalfGates desk) {
        StringBuilder s = new StringBuilder("counts");
        for (int what = 0; what < 6; what++) {
            s.append(' ').append(desk.count(what));
        }
        s.append(" numbers");
        for (int k = 0; k < 8; k++) {
            s.append(' ').append(desk.get(k));
        }
        int blocks = desk.count(3);
        for (int b = 0; b < blocks; b++) {
            s.append(' ').append(name(desk, b));
            for (int what = 0; what < 9; what++) {
                s.append(' ').append(desk.block(b, what));
            }
        }
        s.append(" fault ").append(desk.fault()).append(" edges");
        int cut = desk.edge(0);
        for (int i = 1; cut != HalfGates.NONE; i++) {
            s.append(' ').append(cut);
            cut = desk.edge(i);
        }
        return s.toString();
    }

    private static String name(HalfGates desk, int b) {
        StringBuilder s = new StringBuilder();
        int c = Check.nameByte(desk, b, 0);
        for (int i = 1; c >= 0; i++) {
            s.append((char) c);
            c = Check.nameByte(desk, b, i);
        }
        return s.toString();
    }
}
