/** Section 5 of the document: which rows the agent lets, and its REPORTS. */
final class GuardTests {
    private static final int[] SCOPE = Rows.scope(0, Rows.pdu(0, 44, 0, 0, Rows.binding("1.2.0", Rows.empty(5))));

    private GuardTests() {
    }

    static void run() {
        faulty();
        reportsOfTheLevel0();
        sums();
        times();
        takenOnes();
        manyTaken();
        ciphers();
        secretAnswers();
    }

    /** A row comes; what is SENT then, and the COUNTERS. */
    private static String come(Agenttree x, int[] row) {
        Talk.come(x, 1, row);
        String sent = "";
        while (x.rows() > 0) {
            sent += x.rowText(0) + " to " + x.ofRow(0, 1) + "; ";
            x.lose(0);
        }
        return sent + Talk.counters(x);
    }

    private static void faulty() {
        Agenttree x = new Agenttree();
        Check.same("a FAULT", "1 1 0 0 0 0 0 0", come(x, Rows.of(0)));
        Check.same("a FAULT goes ahead", "2 2 0 0 0 0 0 0",
                come(x, Rows.join(Rows.sealed(1, 1, 9, 1, 0, 9, 0, 0, SCOPE), Rows.of(0))));
    }

    private static void reportsOfTheLevel0() {
        Agenttree x = new Agenttree();
        x.tick(2);
        Check.same("another ENGINE", "300 0 7 1 2 9 -1 0: 0 report 0 0 0, 4.3.0=c1 to 1; 1 0 1 0 0 0 0 0",
                come(x, Rows.sealed(300, 1, 8, 5, 99, 9, 0, 0, SCOPE)));
        Check.same("no such USER", "-1 0 7 1 2 5 -1 0: 0 report 0 0 0, 4.4.0=c1 to 1; 2 0 1 1 0 0 0 0",
                come(x, Rows.sealed(-1, 2, 7, 5, 99, 5, 0, 0, SCOPE)));
        Check.same("no such USER below 0", "4 0 7 1 2 -1 -1 0: 0 report 0 0 0, 4.4.0=c2 to 1; 3 0 1 2 0 0 0 0",
                come(x, Rows.plain(4, -1, SCOPE)));
        Check.same("a USER that is not known", "5 0 7 1 2 2 -1 0: 0 report 0 0 0, 4.4.0=c3 to 1; 4 0 1 3 0 0 0 0",
                come(x, Rows.plain(5, 2, SCOPE)));
        x.user(2, true, 55, 1);
        Check.same("above HIGHEST", "6 0 7 1 2 2 -1 0: 0 report 0 0 0, 4.5.0=c1 to 1; 5 0 1 3 1 0 0 0",
                come(x, Rows.sealed(6, 2, 7, 1, 2, 2, 55, 0, SCOPE)));
        Check.same("just HIGHEST", "; 6 0 1 3 1 0 0 0",
                come(x, Rows.sealed(6, 1, 7, 1, 2, 2, 55, 0, SCOPE)).replaceFirst(".*;", ";"));
        x.user(2, true, 55, 0);
        Check.same("a REPORT of whichever KIND", "6 0 7 1 2 2 -1 0: 0 report 0 0 0, 4.5.0=c2 to 1; 7 0 1 3 2 0 0 0",
                come(x, Rows.sealed(6, 1, 7, 1, 2, 2, 55, 0, Rows.scope(0, Rows.pdu(7, 1, 1, 1)))));
    }

    private static void sums() {
        Agenttree x = new Agenttree();
        int[] row = Rows.sealed(6, 1, 7, 1, 0, 0, 1000, 0, SCOPE);
        row[26] ^= 1;
        Check.same("a wrong SUM", "6 0 7 1 0 0 -1 0: 0 report 0 0 0, 4.6.0=c1 to 1; 1 0 0 0 0 1 0 0", come(x, row));
        Check.same("a SUM by another KEY", "6 0 7 1 0 0 -1 0: 0 report 0 0 0, 4.6.0=c2 to 1; 2 0 0 0 0 2 0 0",
                come(x, Rows.sealed(6, 2, 7, 9, 99, 0, 1001, 0, SCOPE)));
        Check.same("nothing was TAKEN", 0, x.ofAgent(9));
        Check.same("a right SUM, from whichever MANAGER", "6 1 7 1 0 0 ; 3 0 0 0 0 2 0 0",
                come(x, Rows.sealed(6, 1, 7, 1, 0, 0, 1000, 0, SCOPE)).replaceFirst("0 0 \\d+ 0: .*;", "0 0 ;"));
        x.user(0, true, 9999, 2);
        Check.same("by the KEY of now", "7 1 7 1 0 0 ; 4 0 0 0 0 2 0 0",
                come(x, Rows.sealed(7, 1, 7, 1, 0, 0, 9999, 0, SCOPE)).replaceFirst("0 0 \\d+ 0: .*;", "0 0 ;"));
    }

    private static void late(Agenttree x, String what, int id, int boots, int time) {
        Talk.come(x, 0, Rows.sealed(id, 1, 7, boots, time, 0, 1000, 0, SCOPE));
        x.fetch(0);
        String text = x.rowText(0);
        int sum = x.sum(1000);
        Check.same(what, id + " 1 7 " + x.ofAgent(1) + " " + x.ofAgent(2) + " 0 " + sum + " 0: 0 report 0 0 0, 4.7.0="
                + Talk.value(x, 0, "4.7.0"), text);
        x.lose(0);
    }

    private static void inTime(Agenttree x, String what, int id, int time) {
        Talk.come(x, 0, Rows.sealed(id, 1, 7, x.ofAgent(1), time, 0, 1000, 0, SCOPE));
        Check.is(what, x.rowText(0).contains(" response 44 0 0, 1.2.0=0"));
        x.lose(0);
    }

    private static void times() {
        Agenttree x = new Agenttree();
        x.tick(20);
        late(x, "16 ahead", 1, 1, 36);
        late(x, "16 behind", 1, 1, 4);
        late(x, "far behind", 1, 1, -2147483648);
        late(x, "far ahead", 1, 1, 2147483647);
        late(x, "BOOTS below", 1, 0, 20);
        late(x, "BOOTS above", 1, 2, 20);
        Check.same("six were not in time", "c6", Talk.value(x, 0, "4.7.0"));
        Check.same("none was TAKEN", 0, x.ofAgent(9));
        inTime(x, "15 ahead", 1, 35);
        inTime(x, "15 behind", 2, 5);
        Check.same("two were TAKEN", 2, x.ofAgent(9));
        x.restart();
        late(x, "of the BOOT before", 3, 1, 0);
        inTime(x, "of this BOOT with an ID of the BOOT before", 1, 0);
    }

    private static void takenOnes() {
        Agenttree x = new Agenttree();
        int[] row = Rows.sealed(6, 1, 7, 1, 15, 0, 1000, 0, SCOPE);
        Check.is("the first time", come(x, row).endsWith("; 1 0 0 0 0 0 0 0"));
        Check.same("the second time", "2 0 0 0 0 0 1 0", come(x, row));
        Check.is("another USER with this ID", come(x, Rows.sealed(6, 1, 7, 1, 0, 1, 1001, 0, SCOPE)).endsWith("; 3 0 0 0 0 0 1 0"));
        Check.same("another row with this ID", "4 0 0 0 0 0 2 0", come(x, Rows.sealed(6, 2, 7, 1, 0, 0, 1000, 3, SCOPE)));
        x.tick(30);
        Check.same("30 TICKS later", "5 0 0 0 0 0 3 0", come(x, row));
        Check.same("TAKEN", 2, x.ofAgent(9));
        x.tick(1);
        int[] later = Rows.sealed(6, 1, 7, 1, 31, 0, 1000, 0, SCOPE);
        Check.is("31 TICKS later it is not in time", come(x, row).contains(" report 0 0 0, 4.7.0=c4 to 1; 6 0 0 0 0 0 4 0"));
        Check.is("31 TICKS later with another TIME", come(x, later).endsWith("; 7 0 0 0 0 0 4 0"));
        Check.same("TAKEN anew", 1, x.ofAgent(9));
        Check.is("TAKEN whatever is in it", come(x, Rows.sealed(8, 1, 7, 1, 31, 0, 1000, 0, Rows.scope(9, Rows.pdu(7, 0, 0, 0)))).startsWith("8 0"));
        Check.same("two", 2, x.ofAgent(9));
        for (int i = 0; i < 2; i++) {
            Check.is("of the LEVEL 0 again and again", come(x, Rows.plain(6, 0, SCOPE)).contains(" response 44 0 0, 1.2.0=0"));
        }
        Check.same("those are not TAKEN", 2, x.ofAgent(9));
    }

    private static void manyTaken() {
        Agenttree x = new Agenttree();
        Talk.learn(x, 0);
        x.draft(0, 1, 0, 0, 0);
        for (int n = 0; n < 100; n++) {
            x.send(0);
            if (n == 0 || n == 32 || n == 64 || n == 99) {
                x.record(0, n / 32);
            }
            x.passAll(2);
        }
        Check.same("TAKEN", 100, x.ofAgent(9));
        for (int slot = 0; slot < 4; slot++) {
            x.replay(slot);
            Check.same("nothing is SENT to one that was TAKEN", 0, x.pass(0));
            Check.same("4.7.0", "c" + (slot + 1), Talk.value(x, 0, "4.7.0"));
        }
        x.tick(31);
        Check.same("TAKEN 31 TICKS ago", 0, x.ofAgent(9));
    }

    private static void ciphers() {
        Agenttree x = new Agenttree();
        int[] right = Rows.sealed(6, 2, 7, 1, 0, 0, 1000, 200, SCOPE);
        Check.is("a right one", come(x, right).endsWith("; 1 0 0 0 0 0 0 0"));
        Check.same("rows of the LEVEL 2 that the agent SENT", 1, x.ofAgent(8));
        String due = "7 0 7 1 0 0 -1 0: 0 report 0 0 0, 4.8.0=c1 to 1; 2 0 0 0 0 0 0 1";
        Check.same("no SCOPE", due, come(x, Rows.sealed(7, 2, 7, 1, 0, 0, 1000, 0, Rows.of())));
        Check.same("it was TAKEN", 2, x.ofAgent(9));
        Check.same("again", "3 0 0 0 0 0 1 1", come(x, Rows.sealed(7, 2, 7, 1, 0, 0, 1000, 0, SCOPE)));
        Check.is("bytes behind a SCOPE", come(x, Rows.sealed(8, 2, 7, 1, 0, 0, 1000, 0, Rows.join(SCOPE, Rows.of(0))))
                .endsWith("4.8.0=c2 to 1; 4 0 0 0 0 0 1 2"));
        Check.is("a SCOPE that lacks a byte", come(x, Rows.sealed(9, 2, 7, 1, 0, 0, 1000, 0,
                java.util.Arrays.copyOf(SCOPE, SCOPE.length - 1))).endsWith("4.8.0=c3 to 1; 5 0 0 0 0 0 1 3"));
        Check.same("no more of the LEVEL 2", 1, x.ofAgent(8));
    }

    /** What the agent SENDS of the LEVELS 1 and 2 is what this side makes of the same. */
    private static void secretAnswers() {
        Agenttree x = new Agenttree();
        x.tick(9);
        for (int n = 0; n < 3; n++) {
            int[] scope = Rows.scope(0, Rows.pdu(2, 44, 0, 0, Rows.binding("1.2.0", Rows.integer(0))));
            for (int level = 1; level <= 2; level++) {
                Talk.come(x, 0, Rows.sealed(60 + 2 * n + level, level, 7, 1, 9, 1, 1001, 99, SCOPE));
                int[] due = Rows.sealed(60 + 2 * n + level, level, 7, 1, 9, 1, 1001, n, scope);
                Check.same("its bytes", java.util.Arrays.toString(due), bytes(x));
                x.lose(0);
            }
        }
    }

    static String bytes(Agenttree x) {
        int[] bytes = new int[x.ofRow(0, 2)];
        for (int i = 0; i < bytes.length; i++) {
            bytes[i] = x.byteOf(0, i);
        }
        return java.util.Arrays.toString(bytes);
    }
}
