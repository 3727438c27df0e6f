/** Promises 48 to 50, 53 and 54: rows on the BENCH (what READING is, BytesEdges and FaultEdges tell). */
final class ReadingTests {
    private ReadingTests() {
    }

    static void run() {
        promises48And49();
        promise50();
        promise53();
        promise54();
    }

    private static void promises48And49() {
        Agenttree x = new Agenttree();
        Check.same("lay by nothing", 0, x.lay(-1, -1, -1, -1, -1));
        Check.same("lay two", 2, x.lay(0, -1, 255, -1, -1));
        for (int b : new int[] {-2, 256}) {
            Check.badArgument(x, "lay first " + b, () -> x.lay(b, 1, 1, 1, 1));
            Check.badArgument(x, "lay second " + b, () -> x.lay(1, b, 1, 1, 1));
            Check.badArgument(x, "lay third " + b, () -> x.lay(1, 1, b, 1, 1));
            Check.badArgument(x, "lay fourth " + b, () -> x.lay(1, 1, 1, b, 1));
            Check.badArgument(x, "lay fifth " + b, () -> x.lay(1, 1, 1, 1, b));
        }
        for (int i = 0; i < 50; i++) {
            x.lay(1, 2, 3, 4, 5);
        }
        Check.same("lay to 255", 255, x.lay(1, 2, 3, -1, -1));
        Check.badState(x, "lay to 256", () -> x.lay(-1, -1, -1, -1, 0));
        Check.badArgument(x, "lay 256 at 255", () -> x.lay(256, -1, -1, -1, -1));
        Check.same("lay by nothing at 255", 255, x.lay(-1, -1, -1, -1, -1));
        Check.badArgument(x, "cut(0)", () -> x.cut(0));
        Check.badArgument(x, "cut(256)", () -> x.cut(256));
        Check.same("cut(1)", 254, x.cut(1));
        Check.badState(x, "lay two at 254", () -> x.lay(7, 7, -1, -1, -1));
        Check.same("cut(255)", 0, x.cut(255));
        Check.same("cut(1) of none", 0, x.cut(1));
        x.lay(48, 1, 9, -1, -1);
        Check.same("the last bytes go", 2, x.cut(1));
        x.lay(2, -1, -1, -1, -1);
        x.inject(0);
        Check.same("what is laid stands behind", "48 1 2", x.byteOf(0, 0) + " " + x.byteOf(0, 1) + " " + x.byteOf(0, 2));
    }

    private static void promise50() {
        Agenttree x = new Agenttree();
        Check.badPlace(x, "fetch(0) without rows", () -> x.fetch(0));
        x.send(0);
        x.send(1);
        x.lay(1, 2, 3, 4, 5);
        Check.same("fetch(1)", x.ofRow(1, 2), x.fetch(1));
        Check.same("read() of it", x.rowText(1), x.read());
        Check.badPlace(x, "fetch(2)", () -> x.fetch(2));
        Check.badPlace(x, "fetch(-1)", () -> x.fetch(-1));
        x.lay(0, -1, -1, -1, -1);
        Check.same("the row under way stays as it is", -1, x.ofRow(1, 3));
        Check.same("the FAULT is of the BENCH alone", x.ofRow(1, 2), x.fault());
    }

    private static void promise53() {
        Agenttree x = new Agenttree();
        Check.badArgument(x, "sum(-1)", () -> x.sum(-1));
        Check.badArgument(x, "sum(10000)", () -> x.sum(10000));
        // 0 * 257 + 0 + 1 = 1, then 258.
        Check.same("SUM of no byte by 0", 258, x.sum(0));
        Check.same("SUM of no byte by 9999", Rows.sum(new int[0], 9999, -1), x.sum(9999));
        x.lay(255, 255, 0, 255, 1);
        Check.same("SUM of bytes with a FAULT", Rows.sum(new int[] {255, 255, 0, 255, 1}, 4321, -1), x.sum(4321));
        int[] scope = Rows.scope(0, Rows.pdu(0, 1, 0, 0));
        int[] plain = Rows.plain(1, 2, scope);
        Talk.lay(x, plain);
        Check.same("SUM of the LEVEL 0", Rows.sum(plain, 77, -1), x.sum(77));
        for (int level = 1; level <= 2; level++) {
            int[] row = Rows.sealed(9, level, 7, 1, 2, 3, 1003, 5, scope);
            Talk.lay(x, row);
            Check.same("SUM of the LEVEL " + level, row[25] * 256 + row[26], x.sum(1003));
            Check.same("it does not look at its own bytes", Rows.sum(row, 1004, 25), x.sum(1004));
            Talk.lay(x, Rows.join(row, Rows.of(0)));
            Check.same("with a FAULT all bytes count", Rows.sum(Rows.join(row, Rows.of(0)), 1003, -1), x.sum(1003));
        }
    }

    private static void promise54() {
        Agenttree x = new Agenttree();
        Check.badArgument(x, "KEY -1", () -> x.cipher(-1, 0, 0));
        Check.badArgument(x, "KEY 10000", () -> x.cipher(10000, 0, 0));
        Check.badArgument(x, "BOOTS -1", () -> x.cipher(0, -1, 0));
        Check.badArgument(x, "BOOTS 1000", () -> x.cipher(0, 1000, 0));
        Check.badArgument(x, "SALT -1", () -> x.cipher(0, 0, -1));
        Check.badArgument(x, "SALT 256", () -> x.cipher(0, 0, 256));
        Check.same("cipher of no byte", 0, x.cipher(1, 1, 1));
        int[] row = Rows.plain(1, 2, Rows.scope(0, Rows.pdu(0, 1, 0, 0)));
        int[][] keys = {{0, 0, 0}, {9999, 999, 255}, {1000, 1, 7}};
        for (int[] k : keys) {
            Talk.lay(x, row);
            String before = x.read();
            int sum = 0;
            for (int b : Rows.ciphered(row, k[0], k[1], k[2])) {
                sum += b;
            }
            Check.same("cipher", sum, x.cipher(k[0], k[1], k[2]));
            x.cipher(k[0], k[1], k[2]);
            Check.same("undone by the same", before, x.read());
        }
    }
}
