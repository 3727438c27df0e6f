/** Section 7 of the document, the LINE (promises 37 to 47 and 55): empty, full, and one less. */
final class LineEdges {
    private LineEdges() {
    }

    static void run() {
        rowsUnderWay();
        behindTheEnd();
        whatARowTells();
        bytesOfARow();
        passing();
        passingAll();
        goneAheadOfWhatItDoes();
        losing();
        lostAtOnce();
        lostByItsBytes();
        twiceAndAgain();
        spoiling();
        recording();
        replaying();
        injecting();
        fetching();
    }

    /** IDS of the rows under way. */
    private static String ids(Agenttree x) {
        StringBuilder s = new StringBuilder();
        for (int k = 0; k < x.rows(); k++) {
            s.append(k == 0 ? "" : " ").append(x.rowText(k).split(" ")[0]);
        }
        return s.toString();
    }

    private static Agenttree with(int rows) {
        Agenttree x = new Agenttree();
        for (int i = 0; i < rows; i++) {
            x.send(0);
        }
        return x;
    }

    private static String house(Agenttree x) {
        return x.house(0) + " " + x.house(1) + " " + x.house(2) + " " + x.house(3);
    }

    private static void rowsUnderWay() {
        Doc.says("The LINE has at most 16 rows under way, in the sequence in which they came there, each from the agent to a MANAGER, or from "
                + "one to the agent");
        Doc.promise(37, "Returns how many rows are under way.");
        Doc.promise(1, "Creates an agent with its PORTS, two MANAGERS, and a LINE without rows.");
        Agenttree x = new Agenttree();
        for (int i = 0; i < 16; i++) {
            Check.same("rows", i, x.rows());
            Check.same("SENT", 2 * i, x.send(0));
        }
        Check.same("rows", 16, x.rows());
        Check.same("a 17th", -9, x.send(0));
        Check.same("rows", 16, x.rows());
        Check.same("their sequence", "0 2 4 6 8 10 12 14 16 18 20 22 24 26 28 30", ids(x));
        Check.same("the books", "16 0 0 1", house(x));
        for (int i = 15; i >= 0; i--) {
            Check.same("rows", i, x.lose(0));
        }
        Check.same("rows", 0, x.rows());
        Check.same("one again", 32, x.send(0));
    }

    private static void behindTheEnd() {
        Doc.says("what is SENT comes behind its end");
        Agenttree x = new Agenttree();
        x.target(0, true, 1, 1, 0, false);
        x.send(0);
        x.send(1);
        Check.same("those that are SENT", "0 1", ids(x));
        x.restart();
        Check.same("a NOTICE behind them", "0 1 1001", ids(x));
        x.pass(0);
        Check.same("a REPORT behind that", "1 1001 0", ids(x));
        x.twice(0);
        x.record(1, 0);
        x.replay(0);
        x.lay(48, -1, -1, -1, -1);
        x.inject(1);
        x.send(1);
        Check.same("what is doubled, replayed, laid and SENT", "1 1001 0 1 1001 fault 3", ids(x));
        x.pass(3);
        Check.same("a REPORT behind all", "1 1001 0 1001 fault 3 1", ids(x));
    }

    private static void whatARowTells() {
        Doc.promise(38, "Returns that.", "4 at which NOW it was SENT (of one that is there by twice(), replay() or inject(): at which NOW that was "
                + "called)");
        Agenttree x = new Agenttree();
        x.tick(3);
        x.send(1);
        x.tick(1);
        x.pass(0);
        x.tick(1);
        x.record(0, 1);
        x.twice(0);
        x.tick(1);
        x.replay(1);
        x.lay(48, 0, -1, -1, -1);
        x.tick(1);
        x.inject(0);
        x.spoil(1, 0, 49);
        int report = Rows.open(1, 7, 1, 4, 1, Rows.scope(0, Rows.pdu(7, 0, 0, 0, Rows.binding("4.3.0", Rows.number(65, 1))))).length;
        int[][] due = {{2, 1, report, -1, 4}, {2, 1, report, 0, 5}, {2, 1, report, -1, 6}, {0, 2, 2, 2, 7}};
        for (int k = 0; k < 4; k++) {
            for (int what = 0; what <= 4; what++) {
                Check.same("ofRow(" + k + ", " + what + ")", due[k][what], x.ofRow(k, what));
            }
        }
    }

    private static void bytesOfARow() {
        Doc.promise(40, "Returns its byte there.");
        Agenttree x = new Agenttree();
        int[] row = new int[255];
        for (int i = 0; i < row.length; i++) {
            row[i] = 255 - i;
        }
        Talk.lay(x, row);
        x.inject(0);
        for (int place : new int[] {0, 1, 127, 128, 253, 254}) {
            Check.same("the byte at " + place, 255 - place, x.byteOf(0, place));
        }
        Check.badPlace(x, "the byte at 255", () -> x.byteOf(0, 255));
        Agenttree y = new Agenttree();
        y.lay(7, -1, -1, -1, -1);
        y.inject(0);
        Check.same("the only byte", 7, y.byteOf(0, 0));
        Check.badPlace(y, "a second byte", () -> y.byteOf(0, 1));
    }

    private static void passing() {
        Doc.promise(41, "A row comes to whom it is under way to, whatever is ahead of it.", "Returns how many are under way then.");
        for (int k = 0; k < 16; k++) {
            Agenttree x = with(16);
            Check.same("a row comes, a REPORT goes", 16, x.pass(k));
            Check.same("the REPORT", 2 * k + " report", x.rowText(15).replaceFirst(" .*(report).*", " $1"));
            Check.same("one came", "17 0 1 0", house(x));
            Check.same("the MANAGER gets it", 15, x.pass(15));
            Check.same("its ANSWER", 2 * k, x.ofManager(0, 11));
        }
        Agenttree y = with(1);
        y.spoil(0, 0, 0);
        Check.same("a FAULT gets nothing", 0, y.pass(0));
        Check.same("one came", "1 0 1 0", house(y));
    }

    private static void passingAll() {
        Doc.promise(42, "The first row comes, and so on, till so many came, or none is under way.", "Returns how many came.");
        Agenttree x = new Agenttree();
        Check.same("of none", 0, x.passAll(1));
        Check.same("of none", 0, x.passAll(40));
        for (int many : new int[] {1, 2, 5, 6, 7, 40}) {
            Agenttree y = with(3);
            int due = Math.min(many, 6);
            Check.same("passAll(" + many + ")", due, y.passAll(many));
            Check.same("rows then", due < 3 ? 3 : 6 - due, y.rows());
            Check.same("the books", 3 + Math.min(due, 3) + " 0 " + due + " 0", house(y));
        }
        Agenttree z = with(16);
        Check.same("32 would come", 32, z.passAll(40));
        Agenttree w = with(16);
        w.target(0, true, 0, 0, 0, true);
        for (int i = 0; i < 16; i++) {
            w.restart();
        }
        Check.same("16 of the LINE, their REPORTS", 32, w.passAll(40));
        Agenttree v = with(0);
        v.target(0, true, 0, 0, 0, true);
        for (int i = 0; i < 16; i++) {
            v.restart();
        }
        Check.same("16 INFORMS, and their RESPONSES", 32, v.passAll(40));
        v.restart();
        Check.same("one, and one", 1, v.passAll(1));
        Check.same("the RESPONSE is under way", "0 2", v.ofRow(0, 0) + " " + v.ofRow(0, 1));
    }

    private static void goneAheadOfWhatItDoes() {
        Doc.says("A row that comes is gone from the LINE ahead of what it does.");
        Agenttree x = with(16);
        Check.same("its REPORT has a place", 16, x.pass(0));
        Check.same("nothing is LOST", "17 0 1 0", house(x));
        Agenttree y = new Agenttree();
        Talk.seeAll(y);
        y.target(0, true, 0, 0, 0, false);
        Talk.lay(y, Rows.plain(9, 0, Rows.scope(0, Rows.pdu(3, 44, 0, 0, Rows.binding("2.3.1", Rows.integer(2)),
                Rows.binding("2.3.2", Rows.integer(2))))));
        for (int i = 0; i < 16; i++) {
            y.inject(0);
        }
        Check.same("a RESPONSE has its place, two NOTICES have none", 16, y.pass(4));
        Check.same("the RESPONSE", "9 0 7 1 0 0 -1 0: 0 response 44 0 0, 2.3.1=2, 2.3.2=2", y.rowText(15));
        Check.same("two are LOST", "3 2 1 0", house(y));
    }

    private static void losing() {
        Doc.promise(43, "A row is LOST.", "Returns how many are under way then.");
        for (int k = 0; k < 5; k++) {
            Agenttree x = with(5);
            Check.same("lose(" + k + ")", 4, x.lose(k));
            Check.same("those that stay", "0 2 4 6 8".replaceFirst((2 * k) + " ?", "").trim(), ids(x));
            Check.same("the books", "5 1 0 0", house(x));
        }
        Agenttree y = with(1);
        Check.same("the only one", 0, y.lose(0));
        Check.same("none", "", ids(y));
    }

    private static void lostAtOnce() {
        Doc.says("with 16 there, or with more than 255 bytes, it is LOST (it counts as SENT all the same;");
        Doc.promise(56, "0 rows that were SENT (by all; those that were LOST at once, too, but not by twice(), replay() or inject()), 1 rows that "
                + "were LOST (by lose(), too)");
        for (int there = 13; there <= 16; there++) {
            Agenttree x = with(there);
            x.target(0, true, 0, 0, 0, false);
            x.target(1, true, 1, 1, 2, false);
            x.restart();
            Check.same("rows", Math.min(there + 2, 16), x.rows());
            Check.same("the books", (there + 2) + " " + Math.max(there - 14, 0) + " 0 0", house(x));
            Check.same("of the LEVEL 2", 1, x.ofAgent(8));
        }
    }

    /** A MANAGER's RESPONSE to an INFORM of 255 bytes, with a SALT that has one byte more. */
    private static void lostByItsBytes() {
        int[] inform = inform();
        for (int salts : new int[] {127, 128}) {
            Agenttree x = new Agenttree();
            x.draft(0, 2, 0, 0, 0);
            for (int i = 0; i < salts; i++) {
                x.send(0);
                if (i % 16 == 15) {
                    x.passAll(40);
                }
            }
            x.passAll(40);
            int sent = x.house(0);
            Check.same("rows under way", 0, x.rows());
            Forge.toManager(x, 0, inform);
            Check.same("it is told", 1, x.ofManager(0, 8));
            Check.same("its RESPONSE", salts == 127 ? 1 : 0, x.rows());
            Check.same("it counts as SENT", sent + 2, x.house(0));
            Check.same("LOST", salts == 127 ? 0 : 1, x.house(1));
            Check.same("for the SALT", salts + 1, x.ofManager(0, 10));
        }
    }

    private static int[] inform() {
        for (int octets = 0; octets <= 12; octets++) {
            int[] bindings = Rows.binding("1.2.3.4", Rows.part(4, new int[octets]));
            for (int i = 0; i < 7; i++) {
                bindings = Rows.join(bindings, Rows.binding("1.2.3.4.5.6.7.8", Rows.part(4, new int[12])));
            }
            int[] row = Rows.sealed(9, 2, 7, 1, 0, 0, 1000, 100, Rows.scope(0, Rows.pdu(6, 5, 0, 0, bindings)));
            if (row.length == 255) {
                return row;
            }
        }
        throw new IllegalStateException("no INFORM of 255 bytes");
    }

    private static void twiceAndAgain() {
        Doc.promise(44, "A row is under way once more, behind all.", "Returns how many are under way then;");
        Agenttree x = with(2);
        for (int i = 3; i <= 16; i++) {
            Check.same("twice(0)", i, x.twice(0));
        }
        Check.same("the sequence", "0 2 0 0 0 0 0 0 0 0 0 0 0 0 0 0", ids(x));
        Check.same("not SENT by that", "2 0 0 0", house(x));
        x.spoil(0, 0, 0);
        Check.same("each is a row of its own", "fault 2 0 0 0 0 0 0 0 0 0 0 0 0 0 0", ids(x));
        Check.same("all come", 16 + 15, x.passAll(40));
        Check.same("one ANSWER, the others dropped", "2 13", x.ofManager(0, 7) + " " + x.ofManager(0, 9));
    }

    private static void spoiling() {
        Doc.promise(45, "A byte of a row becomes another one.", "Returns that before.");
        Agenttree x = with(2);
        int bytes = x.ofRow(0, 2);
        for (int place : new int[] {0, 1, bytes - 1}) {
            int before = x.byteOf(0, place);
            Check.same("before", before, x.spoil(0, place, 255));
            Check.same("then", 255, x.spoil(0, place, 0));
            Check.same("then", 0, x.byteOf(0, place));
            Check.same("as before", 0, x.spoil(0, place, before));
        }
        Check.same("as it was", "0 2", ids(x));
        Check.same("to the same", 48, x.spoil(0, 0, 48));
        x.spoil(1, 7, 99);
        Check.same("the other one is another one", "0 99", ids(x));
        Check.same("nothing else", "2 0 0 0", house(x));
    }

    private static void recording() {
        Doc.promise(46, "A row is recorded as it is (it stays under way).", "(in the place of that which is there)", "Returns how many bytes it has.");
        Agenttree x = with(1);
        x.lay(1, 2, 3, -1, -1);
        x.inject(1);
        int[] full = new int[255];
        java.util.Arrays.fill(full, 9);
        Talk.lay(x, full);
        x.inject(1);
        int[] bytes = {x.ofRow(0, 2), 3, 255};
        for (int k = 0; k < 3; k++) {
            for (int slot = 0; slot < 4; slot++) {
                Check.same("record(" + k + ", " + slot + ")", bytes[k], x.record(k, slot));
            }
        }
        Check.same("they stay", 3, x.rows());
        x.record(1, 3);
        x.record(0, 0);
        x.spoil(0, 0, 0);
        for (int slot = 0; slot < 4; slot++) {
            x.replay(slot);
        }
        Check.same("what is there", bytes[0] + " 255 255 3", x.ofRow(3, 2) + " " + x.ofRow(4, 2) + " " + x.ofRow(5, 2) + " " + x.ofRow(6, 2));
        Check.same("as it was", "0 0 0 0 0 0 -1 0: 0 get 0 0 0", x.rowText(3));
        Check.same("from and to the same", "0 2 1 2", x.ofRow(3, 0) + " " + x.ofRow(3, 1) + " " + x.ofRow(6, 0) + " " + x.ofRow(6, 1));
    }

    private static void replaying() {
        Doc.promise(47, "What is recorded is under way again, behind all, from and to the same.", "Returns how many are under way then;");
        Agenttree x = with(1);
        x.record(0, 2);
        x.lose(0);
        for (int i = 1; i <= 16; i++) {
            Check.same("replay(2)", i, x.replay(2));
        }
        Check.refused(x, "a 17th", () -> x.replay(2));
        Check.same("not SENT by that", "1 1 0 1", house(x));
        x.passAll(40);
        Check.same("it is recorded still", 1, x.replay(2));
        x.pass(0);
        x.record(0, 2);
        x.lose(0);
        x.replay(2);
        Check.same("one of the agent", "2 0", x.ofRow(0, 0) + " " + x.ofRow(0, 1));
    }

    private static void injecting() {
        Doc.promise(55, "The row on the BENCH (it stays) is under way, behind all, from a MANAGER to the agent (it is not SENT by that: nothing that "
                + "the MANAGER counts becomes more).", "Returns how many are under way then;");
        Agenttree x = new Agenttree();
        Talk.lay(x, Rows.plain(9, 0, Rows.scope(0, Rows.pdu(0, 44, 0, 0))));
        String read = x.read();
        for (int i = 1; i <= 16; i++) {
            Check.same("inject()", i, x.inject(i % 2));
            Check.same("from, to", i % 2 + " 2", x.ofRow(i - 1, 0) + " " + x.ofRow(i - 1, 1));
        }
        Check.same("it stays", read, x.read());
        Check.same("the books", "0 0 0 0", house(x));
        for (int manager = 0; manager < 2; manager++) {
            for (int what = 5; what <= 10; what++) {
                Check.same("nothing that it counts", 0, x.ofManager(manager, what));
            }
        }
        x.passAll(40);
        Check.same("the RESPONSES are dropped", "8 8", x.ofManager(0, 9) + " " + x.ofManager(1, 9));
    }

    private static void fetching() {
        Doc.promise(50, "The row on the BENCH becomes one that is under way.", "Returns how many bytes it has.");
        Agenttree x = with(1);
        x.send(1);
        x.lay(1, 2, 3, 4, 5);
        for (int k = 0; k < 2; k++) {
            Check.same("fetch()", x.ofRow(k, 2), x.fetch(k));
            Check.same("its text", x.rowText(k), x.read());
        }
        x.lay(9, -1, -1, -1, -1);
        x.cut(2);
        Check.same("the row under way stays", -1, x.ofRow(1, 3));
        x.spoil(1, 0, 0);
        Check.is("the BENCH stays", x.read().startsWith("fault 0") && x.fault() == 0);
        int[] full = new int[255];
        Talk.lay(x, full);
        x.inject(0);
        x.cut(200);
        Check.same("255 bytes", 255, x.fetch(2));
        Check.same("one less", 254, x.cut(1));
    }
}
