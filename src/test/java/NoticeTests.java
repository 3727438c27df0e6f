/** Section 6 of the document: NOTICES (by promises 2 to 4, 8 and 26). */
final class NoticeTests {
    private NoticeTests() {
    }

    static void run() {
        whichAreSent();
        ofSets();
        again();
        againWithNewKeys();
        ends();
        endsByResponses();
        numbersOfLostOnes();
        bytes();
    }

    private static Agenttree open() {
        Agenttree x = new Agenttree();
        Talk.seeAll(x);
        return x;
    }

    /** All rows under way as texts, which are lost then. */
    private static String all(Agenttree x) {
        StringBuilder text = new StringBuilder();
        while (x.rows() > 0) {
            text.append(text.length() == 0 ? "" : "; ").append(x.rowText(0)).append(" to ").append(x.ofRow(0, 1));
            Check.same("from the agent", 2, x.ofRow(0, 0));
            x.lose(0);
        }
        return text.toString();
    }

    private static void whichAreSent() {
        Agenttree x = new Agenttree();
        x.target(0, true, 1, 0, 0, false);
        x.port(1, false);
        Check.same("a VIEW that has not 2.1.p and 2.3.p", "", all(x));
        x.restart();
        Check.same("a VIEW that has 1.3.0", "1001 0 7 2 0 0 -1 0: 0 trap 1001 0 0, 1.3.0=t0 to 1", all(x));
        Talk.hold(x, "2");
        x.family(0, 0, true);
        x.tick(3);
        x.port(1, true);
        Check.same("a VIEW that has all", "1002 0 7 2 3 0 -1 0: 0 trap 1002 0 0, 1.3.0=t3, 2.1.1=1, 2.3.1=1 to 1", all(x));
        x.port(1, true);
        Check.same("the same state again", "", all(x));
        Talk.hold(x, "2.3.1");
        x.family(0, 0, false);
        x.port(1, false);
        Check.same("a VIEW that has not 2.3.1", "", all(x));
        x.family(0, 0, true);
        Talk.hold(x, "2.1.1");
        x.family(0, 0, false);
        x.port(1, true);
        Check.same("a VIEW that has not 2.1.1", "", all(x));
        x.family(0, 0, true);
        Talk.hold(x, "1.3");
        x.family(0, 0, false);
        x.port(1, false);
        x.restart();
        Check.same("a VIEW that has not 1.3.0", "", all(x));
        x.family(0, 0, true);
        x.access(0, 0, 0, 0, 0, -1);
        x.restart();
        Check.same("no NOTE VIEW", "", all(x));
        x.access(0, 0, 1, 0, 0, 0);
        x.restart();
        Check.same("LEVEL below LEAST", "", all(x));
        x.access(0, 0, 0, -1, -1, 0);
        x.user(0, true, 1000, 0);
        x.target(1, true, 0, 0, 1, false);
        x.restart();
        Check.same("LEVEL above HIGHEST", "1003 0 7 6 0 0 -1 0: 0 trap 1003 0 0, 1.3.0=t0 to 1", all(x));
        x.user(0, false, 1000, 2);
        x.restart();
        Check.same("a USER that is not known", "", all(x));
        x.user(0, true, 1000, 2);
        x.target(0, false, 1, 0, 0, false);
        x.target(1, false, 1, 0, 0, false);
        x.target(3, true, 0, 1, 0, false);
        x.target(2, true, 1, 0, 0, true);
        x.port(1, true);
        Check.same("TARGET by TARGET", "1004 0 7 7 0 0 -1 0: 0 inform 1004 0 0, 1.3.0=t0, 2.1.1=1, 2.3.1=1 to 1; "
                + "1005 0 7 7 0 1 -1 0: 0 trap 1005 0 0, 1.3.0=t0, 2.1.1=1, 2.3.1=1 to 0", all(x));
        Check.same("the last NOTICE", 1005, x.ofAgent(7));
        Check.same("OPEN INFORMS", 1, x.ofAgent(6));
    }

    private static void ofSets() {
        Agenttree x = open();
        Talk.learn(x, 0);
        x.target(1, true, 0, 0, 0, false);
        x.target(2, true, 1, 1, 0, true);
        x.draft(Talk.SET, 0, 0, 0, 0);
        Talk.bind(x, "2.3.4=2", "2.3.1=1", "2.3.2=2", "2.2.2='a'");
        x.send(0);
        x.pass(0);
        String four = "1.3.0=t0, 2.1.4=4, 2.3.4=2 to ";
        String two = "1.3.0=t0, 2.1.2=2, 2.3.2=2 to ";
        Check.same("behind the RESPONSE, PORT by PORT",
                "2 0 7 1 0 0 -1 0: 0 response 2 0 0, 2.3.4=2, 2.3.1=1, 2.3.2=2, 2.2.2='a' to 0; "
                + "1001 0 7 1 0 0 -1 0: 0 trap 1001 0 0, " + two + "0; 1002 0 7 1 0 1 -1 0: 0 inform 1002 0 0, " + two + "1; "
                + "1003 0 7 1 0 0 -1 0: 0 trap 1003 0 0, " + four + "0; 1004 0 7 1 0 1 -1 0: 0 inform 1004 0 0, " + four + "1",
                all(x));
        x.draft(Talk.SET, 0, 0, 0, 0);
        Talk.bind(x, "2.3.4=1", "1.2.0=10");
        x.send(0);
        x.pass(0);
        Check.same("none of a SET that is wrong", "4 0 7 1 0 0 -1 0: 0 response 4 10 2, 2.3.4=1, 1.2.0=10 to 0", all(x));
    }

    private static void again() {
        Agenttree x = open();
        x.tick(1);
        x.target(0, true, 1, 1, 0, true);
        x.port(2, false);
        x.lose(0);
        // What is told stays, whatever becomes of all these.
        x.port(2, true);
        x.lose(0);
        x.target(0, false, 0, 0, 2, false);
        x.user(1, false, 1001, 0);
        x.access(1, 0, 2, -1, -1, -1);
        String[] due = {"", "", "", "", "6", "", "", "", "", "11", "", "", "", "", "16", "", "", "", "", ""};
        for (int i = 0; i < due.length; i++) {
            Check.same("OPEN", 2, x.ofAgent(6));
            x.tick(1);
            String row = "0 7 1 " + due[i] + " 1 -1 0: 0 inform ";
            Check.same("TICK " + (i + 1), due[i].isEmpty() ? "" : "1001 " + row + "1001 0 0, 1.3.0=t1, 2.1.2=2, 2.3.2=2 to 1; 1002 "
                    + row + "1002 0 0, 1.3.0=t1, 2.1.2=2, 2.3.2=1 to 1", all(x));
        }
        Check.same("OPEN no more", 0, x.ofAgent(6));
        x.tick(40);
        Check.same("nothing more", 0, x.rows());
        Check.same("no number more", 1002, x.ofAgent(7));
        Agenttree y = open();
        y.target(0, true, 0, 0, 0, true);
        y.port(1, false);
        y.tick(3);
        y.port(1, true);
        y.tick(40);
        Check.same("in one tick(), TICK by TICK", "1001 0, 1002 3, 1001 5, 1002 8, 1001 10, 1002 13, 1001 15, 1002 18", times(y));
        y.target(1, true, 0, 0, 0, false);
        y.port(1, false);
        y.lose(1);
        y.lose(0);
        y.tick(40);
        Check.same("a TRAP is not SENT again", "1003 48, 1003 53, 1003 58", times(y));
    }

    /** ID and TIME of each row under way, which are lost then. */
    private static String times(Agenttree x) {
        StringBuilder text = new StringBuilder();
        while (x.rows() > 0) {
            String[] words = x.rowText(0).split(" ");
            text.append(text.length() == 0 ? "" : ", ").append(words[0]).append(' ').append(words[4]);
            Check.same("at which NOW", Integer.parseInt(words[4]), x.ofRow(0, 4));
            x.lose(0);
        }
        return text.toString();
    }

    private static int[] scope(int time) {
        return Rows.scope(0, Rows.pdu(6, 1001, 0, 0, Rows.binding("1.3.0", Rows.number(67, time)),
                Rows.binding("2.1.2", Rows.integer(2)), Rows.binding("2.3.2", Rows.integer(2))));
    }

    private static void againWithNewKeys() {
        Agenttree x = open();
        x.target(0, true, 1, 1, 2, true);
        x.port(2, false);
        Check.same("by the KEY and SALT of now",
                java.util.Arrays.toString(Rows.sealed(1001, 2, 7, 1, 0, 1, 1001, 0, scope(0))), GuardTests.bytes(x));
        x.lose(0);
        x.user(1, false, 77, 0);
        x.tick(5);
        Check.same("by the KEY and SALT of then",
                java.util.Arrays.toString(Rows.sealed(1001, 2, 7, 1, 5, 1, 77, 1, scope(0))), GuardTests.bytes(x));
        x.lose(0);
        x.user(1, true, 78, 0);
        x.tick(5);
        Check.same("by the KEY and SALT of then, again",
                java.util.Arrays.toString(Rows.sealed(1001, 2, 7, 1, 10, 1, 78, 2, scope(0))), GuardTests.bytes(x));
    }

    private static void ends() {
        Agenttree x = open();
        x.target(0, true, 0, 0, 0, true);
        x.port(1, false);
        x.target(1, true, 1, 1, 0, true);
        Check.same("OPEN ahead of it", 1, x.ofAgent(6));
        x.restart();
        Check.same("only those of the new BOOT are OPEN", 2, x.ofAgent(6));
        all(x);
        x.tick(5);
        Check.same("again", "1002 0 7 2 5 0 -1 0: 0 inform 1002 0 0, 1.3.0=t0 to 0; "
                + "1003 0 7 2 5 1 -1 0: 0 inform 1003 0 0, 1.3.0=t0 to 1", all(x));
    }

    private static int[] response(int number) {
        return Rows.scope(5, Rows.pdu(2, number, 3, 4));
    }

    private static void endsByResponses() {
        Agenttree x = open();
        x.target(0, true, 0, 0, 1, true);
        x.target(1, true, 1, 1, 0, true);
        x.port(1, false);
        x.lose(0);
        x.lose(0);
        Talk.come(x, 0, Rows.plain(1, 0, response(1001)));
        Check.same("a lower LEVEL", 2, x.ofAgent(6));
        Talk.come(x, 0, Rows.sealed(1, 1, 7, 1, 0, 1, 1001, 0, response(1001)));
        Check.same("another USER", 2, x.ofAgent(6));
        Talk.come(x, 0, Rows.sealed(1, 1, 7, 1, 0, 0, 1000, 0, response(1003)));
        Check.same("another number", 2, x.ofAgent(6));
        Talk.come(x, 0, Rows.sealed(1, 1, 7, 1, 0, 0, 1000, 0, response(1001)));
        Check.same("TAKEN before", 2, x.ofAgent(6));
        Talk.come(x, 0, Rows.sealed(2, 1, 7, 1, 0, 0, 1000, 0, Rows.scope(0, Rows.pdu(7, 1001, 0, 0))));
        Check.same("a REPORT", 2, x.ofAgent(6));
        Talk.come(x, 1, Rows.sealed(3, 2, 7, 1, 0, 0, 1000, 0, response(1001)));
        Check.same("a higher LEVEL, from another MANAGER", 1, x.ofAgent(6));
        Talk.come(x, 0, Rows.plain(1, 1, response(1002)));
        Check.same("of the LEVEL 0", 0, x.ofAgent(6));
        Check.same("nothing is SENT to a RESPONSE", 0, x.rows());
        x.tick(5);
        Check.same("nothing is SENT again", 0, x.rows());
        // All of it: MANAGERS answer by themselves.
        Talk.learn(x, 0);
        x.port(1, true);
        Check.same("two OPEN", 2, x.ofAgent(6));
        x.passAll(40);
        Check.same("both answered", 0, x.ofAgent(6));
        Check.same("told", "1 0 inform 1003 0 0, 1.3.0=t5, 2.1.1=1, 2.3.1=1", x.told(0, 0));
    }

    private static void numbersOfLostOnes() {
        Agenttree x = open();
        for (int i = 0; i < 16; i++) {
            x.send(0);
        }
        x.target(0, true, 0, 0, 2, true);
        x.port(1, false);
        Check.same("it is LOST at once", 1, x.house(1));
        Check.same("it counts as SENT", 17, x.house(0));
        Check.same("it has a number", 1001, x.ofAgent(7));
        Check.same("it is OPEN", 1, x.ofAgent(6));
        Check.same("it counts for the SALT", 1, x.ofAgent(8));
        x.lose(0);
        x.tick(5);
        Check.is("SENT again", x.rowText(15).startsWith("1001 2 7 1 5 0 "));
        Check.same("the SALT", "1:", x.rowText(15).split(" ")[7]);
    }

    private static void bytes() {
        Agenttree x = open();
        x.tick(40);
        x.target(0, true, 1, 1, 1, false);
        x.port(2, false);
        int[] scope = Rows.scope(0, Rows.pdu(5, 1001, 0, 0, Rows.binding("1.3.0", Rows.number(67, 40)),
                Rows.binding("2.1.2", Rows.integer(2)), Rows.binding("2.3.2", Rows.integer(2))));
        Check.same("a TRAP of the LEVEL 1",
                java.util.Arrays.toString(Rows.sealed(1001, 1, 7, 1, 40, 1, 1001, 0, scope)), GuardTests.bytes(x));
    }
}
