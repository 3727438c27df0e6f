/**
 * Rows of this side's making that come to a MANAGER: a row of the agent of the same length is spoiled byte by byte.
 * What came last is recorded (at 3), so that the next one of its length needs few calls.
 */
final class Forge {
    private final Agenttree x;
    private final int manager;
    private int[] last = {};

    Forge(Agenttree x, int manager) {
        this.x = x;
        this.manager = manager;
    }

    static void toManager(Agenttree x, int manager, int[] row) {
        new Forge(x, manager).come(row);
    }

    void come(int[] row) {
        boolean isNew = last.length != row.length;
        if (isNew) {
            Talk.come(x, manager, asking(row.length));
        } else {
            x.replay(3);
        }
        int k = x.rows() - 1;
        Check.same("bytes of a row to be spoiled", row.length, x.ofRow(k, 2));
        for (int i = 0; i < row.length; i++) {
            if (isNew || last[i] != row[i]) {
                x.spoil(k, i, row[i]);
            }
        }
        x.record(k, 3);
        last = row.clone();
        x.pass(k);
    }

    /** A SET of the LEVEL 0 that is answered, with STATUS 6 and its BINDINGS as they came, by a row of so many bytes. */
    private static int[] asking(int length) {
        for (int bytes = length - 46; bytes >= 0; bytes--) {
            int[] row = Rows.plain(0, 0, Rows.scope(0, Rows.pdu(3, 0, 0, 0, bindings(bytes))));
            if (row.length == length) {
                return row;
            }
        }
        throw new IllegalArgumentException("nothing is answered by a row of " + length + " bytes");
    }

    /** BINDINGS of NAMES that no VIEW has, of so many bytes in all (none, or 7 and more). */
    private static int[] bindings(int bytes) {
        int[] bindings = {};
        int rest = bytes;
        while (rest >= 7) {
            int one = rest <= 34 ? rest : Math.min(34, rest - 7);
            int name = Math.max(1, one - 18);
            int[] numbers = new int[(name + 1) / 2];
            for (int i = 0; i < numbers.length; i++) {
                numbers[i] = i == 0 && name % 2 == 1 ? 9 : 900;
            }
            bindings = Rows.join(bindings, Rows.list(Rows.name(numbers), Rows.part(4, new int[one - 6 - name])));
            rest -= one;
        }
        return bindings;
    }
}
