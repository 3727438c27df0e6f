/** Promises 37 to 47 and 55: the LINE. */
final class LineTests {
    private LineTests() {
    }

    static void run() {
        promises37To40();
        promise41();
        promise42();
        promise43();
        promise44();
        promise45();
        promises46And47();
        promise55();
    }

    private static void promises37To40() {
        Agenttree x = new Agenttree();
        Check.badPlace(x, "ofRow(0, 9) without rows", () -> x.ofRow(0, 9));
        Check.badPlace(x, "rowText(0) without rows", () -> x.rowText(0));
        Check.badPlace(x, "byteOf(0, 0) without rows", () -> x.byteOf(0, 0));
        x.tick(3);
        x.send(1);
        x.tick(1);
        x.send(0);
        Check.same("rows()", 2, x.rows());
        int[] row = Rows.list(Rows.integer(3), Rows.integer(0), Rows.integer(0), Rows.integer(0), Rows.integer(0),
                Rows.integer(4), Rows.integer(0), Rows.octets(""), Rows.integer(0), Rows.scope(0, Rows.pdu(0, 0, 0, 0)));
        int[] due = {0, 2, row.length, -1, 4};
        for (int what = 0; what < 5; what++) {
            Check.same("ofRow(1, " + what + ")", due[what], x.ofRow(1, what));
        }
        Check.same("ofRow(0, 4)", 3, x.ofRow(0, 4));
        Check.same("ofRow(0, 0)", 1, x.ofRow(0, 0));
        Check.same("rowText(1)", "0 0 0 0 4 0 -1 0: 0 get 0 0 0", x.rowText(1));
        for (int i = 0; i < row.length; i++) {
            Check.same("byteOf(1, " + i + ")", row[i], x.byteOf(1, i));
        }
        Check.badPlace(x, "byteOf behind the last one", () -> x.byteOf(1, row.length));
        Check.badPlace(x, "byteOf(1, -1)", () -> x.byteOf(1, -1));
        Check.badPlace(x, "byteOf(2, 0)", () -> x.byteOf(2, 0));
        Check.badPlace(x, "ofRow(2, 0)", () -> x.ofRow(2, 0));
        Check.badPlace(x, "ofRow(-1, 0)", () -> x.ofRow(-1, 0));
        Check.badArgument(x, "ofRow(0, -1)", () -> x.ofRow(0, -1));
        Check.badArgument(x, "ofRow(0, 5)", () -> x.ofRow(0, 5));
        Check.badPlace(x, "rowText(2)", () -> x.rowText(2));
        Check.badPlace(x, "rowText(-1)", () -> x.rowText(-1));
        x.spoil(1, 2, 9);
        Check.same("ofRow(1, 3) with a FAULT", 2, x.ofRow(1, 3));
        Check.same("rowText(1) with a FAULT", "fault 2", x.rowText(1));
        x.pass(0);
        Check.same("of the agent", "2 1", x.ofRow(1, 0) + " " + x.ofRow(1, 1));
    }

    private static void promise41() {
        Agenttree x = new Agenttree();
        Check.badPlace(x, "pass(0) without rows", () -> x.pass(0));
        x.send(0);
        x.send(1);
        Check.same("pass(1)", 2, x.pass(1));
        Check.same("what is ahead stays", "0 0 0 0 0 0 -1 0: 0 get 0 0 0", x.rowText(0));
        Check.same("what is SENT comes behind", "1 0 7 1 0 1 -1 0: 0 report 0 0 0, 4.3.0=c1", x.rowText(1));
        Check.badPlace(x, "pass(2)", () -> x.pass(2));
        Check.badPlace(x, "pass(-1)", () -> x.pass(-1));
        Check.same("pass(1) to the MANAGER", 1, x.pass(1));
        Check.same("its ANSWER", "0 report 0 0 0, 4.3.0=c1", x.answer(1));
        Check.same("rows that came", 2, x.house(2));
        for (int i = 0; i < 15; i++) {
            x.send(0);
        }
        Check.same("a row that comes is gone ahead of what it does", 16, x.pass(3));
        Check.same("nothing is LOST", 0, x.house(1));
    }

    private static void promise42() {
        Agenttree x = new Agenttree();
        Check.same("passAll(1) without rows", 0, x.passAll(1));
        x.send(0);
        x.send(1);
        Check.same("passAll(1)", 1, x.passAll(1));
        Check.same("rows then", "1 0 0 0 0 1 -1 0: 0 get 1 0 0", x.rowText(0));
        Check.same("passAll(40)", 3, x.passAll(40));
        Check.same("none then", 0, x.rows());
        Check.same("rows that came", 4, x.house(2));
        Check.badArgument(x, "passAll(0)", () -> x.passAll(0));
        Check.badArgument(x, "passAll(41)", () -> x.passAll(41));
        Check.badArgument(x, "passAll(-1)", () -> x.passAll(-1));
    }

    private static void promise43() {
        Agenttree x = new Agenttree();
        Check.badPlace(x, "lose(0) without rows", () -> x.lose(0));
        x.send(0);
        x.send(1);
        x.send(0);
        Check.same("lose(1)", 2, x.lose(1));
        Check.same("those that stay", "0 2", x.rowText(0).split(" ")[0] + " " + x.rowText(1).split(" ")[0]);
        Check.same("LOST", 1, x.house(1));
        Check.same("SENT", 3, x.house(0));
        Check.same("came", 0, x.house(2));
        Check.badPlace(x, "lose(2)", () -> x.lose(2));
        Check.badPlace(x, "lose(-1)", () -> x.lose(-1));
    }

    private static void promise44() {
        Agenttree x = new Agenttree();
        Check.badPlace(x, "twice(0) without rows", () -> x.twice(0));
        x.draft(0, 2, 0, 0, 0);
        x.send(1);
        x.send(0);
        x.tick(6);
        Check.same("twice(0)", 3, x.twice(0));
        Check.same("its text", x.rowText(0), x.rowText(2));
        Check.same("from and to", "1 2", x.ofRow(2, 0) + " " + x.ofRow(2, 1));
        Check.same("at which NOW", "0 6", x.ofRow(0, 4) + " " + x.ofRow(2, 4));
        x.spoil(2, 0, 1);
        Check.same("it is another row", 48, x.byteOf(0, 0));
        Check.same("it was not SENT", 2, x.house(0));
        Check.same("nor of the LEVEL 2", 1, x.ofManager(1, 10));
        for (int i = 3; i < 16; i++) {
            x.twice(1);
        }
        Check.refused(x, "twice(15) with 16", () -> x.twice(15));
        Check.badPlace(x, "twice(16)", () -> x.twice(16));
        Check.badPlace(x, "twice(-1)", () -> x.twice(-1));
        Check.same("nothing is LOST", 0, x.house(1));
    }

    private static void promise45() {
        Agenttree x = new Agenttree();
        Check.badPlace(x, "spoil(0, 0, 256) without rows", () -> x.spoil(0, 0, 256));
        x.send(0);
        int bytes = x.ofRow(0, 2);
        Check.same("spoil the first one", 48, x.spoil(0, 0, 255));
        Check.same("what is there then", 255, x.spoil(0, 0, 0));
        Check.same("spoil the last one", 0, x.spoil(0, bytes - 1, 1));
        Check.same("byteOf", 1, x.byteOf(0, bytes - 1));
        Check.badPlace(x, "spoil behind the last one", () -> x.spoil(0, bytes, 1));
        Check.badPlace(x, "spoil(0, -1, 256)", () -> x.spoil(0, -1, 256));
        Check.badPlace(x, "spoil(1, 0, 1)", () -> x.spoil(1, 0, 1));
        Check.badArgument(x, "spoil by -1", () -> x.spoil(0, 0, -1));
        Check.badArgument(x, "spoil by 256", () -> x.spoil(0, 0, 256));
    }

    private static void promises46And47() {
        Agenttree x = new Agenttree();
        Check.badPlace(x, "record(0, 0) without rows", () -> x.record(0, 0));
        for (int slot = 0; slot < 4; slot++) {
            int s = slot;
            Check.refused(x, "replay(" + slot + ") of nothing", () -> x.replay(s));
        }
        Check.badPlace(x, "replay(-1)", () -> x.replay(-1));
        Check.badPlace(x, "replay(4)", () -> x.replay(4));
        x.send(1);
        x.draft(0, 1, 0, 0, 0);
        x.send(0);
        Check.same("record(1, 3)", x.ofRow(1, 2), x.record(1, 3));
        Check.same("it stays under way", 2, x.rows());
        Check.badPlace(x, "record(0, 4)", () -> x.record(0, 4));
        Check.badPlace(x, "record(0, -1)", () -> x.record(0, -1));
        Check.badPlace(x, "record(2, 0)", () -> x.record(2, 0));
        String text = x.rowText(1);
        x.spoil(1, 0, 0);
        x.tick(2);
        Check.same("replay(3)", 3, x.replay(3));
        Check.same("as it was recorded", text, x.rowText(2));
        Check.same("from and to, at which NOW", "0 2 2", x.ofRow(2, 0) + " " + x.ofRow(2, 1) + " " + x.ofRow(2, 4));
        x.record(1, 3);
        x.replay(3);
        Check.same("in the place of that which was there", "fault 0", x.rowText(3));
        x.pass(0);
        x.record(3, 0);
        x.lose(3);
        x.replay(0);
        Check.same("a row of the agent", "2 1", x.ofRow(3, 0) + " " + x.ofRow(3, 1));
        for (int i = 4; i < 16; i++) {
            Check.same("replay again and again", i + 1, x.replay(0));
        }
        Check.refused(x, "replay with 16", () -> x.replay(0));
        Check.refused(x, "replay of nothing with 16", () -> x.replay(1));
        Check.same("not SENT by that", 3, x.house(0));
    }

    private static void promise55() {
        Agenttree x = new Agenttree();
        Check.refused(x, "inject of no byte", () -> x.inject(0));
        Check.badPlace(x, "inject(-1)", () -> x.inject(-1));
        Check.badPlace(x, "inject(2) of no byte", () -> x.inject(2));
        x.lay(7, -1, -1, -1, -1);
        x.tick(8);
        Check.same("inject(1)", 1, x.inject(1));
        int[] due = {1, 2, 1, 0, 8};
        for (int what = 0; what < 5; what++) {
            Check.same("ofRow(0, " + what + ")", due[what], x.ofRow(0, what));
        }
        x.lay(8, -1, -1, -1, -1);
        Check.same("the BENCH stays, and goes on by itself", 1, x.ofRow(0, 2));
        Check.same("inject(0)", 2, x.inject(0));
        Check.same("from the other one", 0, x.ofRow(1, 0));
        for (int i = 2; i < 16; i++) {
            x.inject(0);
        }
        Check.refused(x, "inject with 16", () -> x.inject(0));
        Check.same("nothing was SENT", 0, x.house(0));
        Check.same("no DRAFT was", 0, x.ofManager(0, 5));
    }
}
