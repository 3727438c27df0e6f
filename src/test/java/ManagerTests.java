/** Promises 28 to 36, and what section 7 of the document tells of MANAGERS. */
final class ManagerTests {
    private ManagerTests() {
    }

    static void run() {
        promise28();
        promises29And35();
        promises30And32();
        promise31();
        promise33();
        refusedSends();
        salts();
        promise36();
        wrongInputs();
    }

    private static void promise28() {
        Agenttree x = new Agenttree();
        Check.same("speak(1, ..)", 1, x.speak(1, 4, 9999));
        Check.same("speak(1, ..) again", 4, x.speak(1, 0, 0));
        Check.same("its USER", 0, x.ofManager(1, 0));
        Check.same("its KEY", 0, x.ofManager(1, 1));
        Check.badPlace(x, "speak(-1, ..)", () -> x.speak(-1, 0, 0));
        Check.badPlace(x, "speak(2, ..)", () -> x.speak(2, 0, 0));
        Check.badPlace(x, "USER -1", () -> x.speak(0, -1, 0));
        Check.badPlace(x, "USER 5 ahead of the KEY", () -> x.speak(0, 5, -1));
        Check.badArgument(x, "KEY -1", () -> x.speak(0, 0, -1));
        Check.badArgument(x, "KEY 10000", () -> x.speak(0, 0, 10000));
        x.send(1);
        Check.same("a row as that USER", "1 0 0 0 0 0 -1 0: 0 get 1 0 0", x.rowText(0));
    }

    private static void promises29And35() {
        Agenttree x = new Agenttree();
        x.restart();
        x.tick(4);
        Talk.learn(x, 1);
        x.tick(3);
        int[] due = {1, 1001, 7, 2, 7, 1, 0, 1, 0, 0, 0, 1};
        for (int what = 0; what < 12; what++) {
            Check.same("ofManager(1, " + what + ")", due[what], x.ofManager(1, what));
        }
        Check.same("forget(1)", 2, x.forget(1));
        for (int what = 2; what <= 4; what++) {
            Check.same("ofManager(1, " + what + ") then", 0, x.ofManager(1, what));
        }
        x.tick(5);
        Check.same("TIME from then on", 5, x.ofManager(1, 4));
        Check.same("forget(1) again", 0, x.forget(1));
        Check.same("TIME of the other one", 12, x.ofManager(0, 4));
        Check.badPlace(x, "forget(-1)", () -> x.forget(-1));
        Check.badPlace(x, "forget(2)", () -> x.forget(2));
        Check.badPlace(x, "ofManager(-1, 0)", () -> x.ofManager(-1, 0));
        Check.badPlace(x, "ofManager(2, 12)", () -> x.ofManager(2, 12));
        Check.badArgument(x, "ofManager(0, -1)", () -> x.ofManager(0, -1));
        Check.badArgument(x, "ofManager(0, 12)", () -> x.ofManager(0, 12));
        x.draft(0, 2, 0, 0, 0);
        x.send(1);
        Check.same("rows of the LEVEL 2", 1, x.ofManager(1, 10));
        Check.same("OPEN", 1, x.ofManager(1, 6));
        Check.same("SENT", 2, x.ofManager(1, 5));
    }

    private static void promises30And32() {
        Agenttree x = new Agenttree();
        Check.same("draft(4, ..)", 0, x.draft(4, 2, 9, -9, 99));
        Check.same("its text", "9 bulk 0 -9 99", x.draftText());
        Check.same("few and many of a GET", 0, x.draft(0, 0, 0, 1000, -1000));
        Check.same("its text", "0 get 0 0 0", x.draftText());
        Talk.bind(x, "1", "2=-3", "3.500='a'");
        Check.same("its text", "0 get 0 0 0, 1=null, 2=-3, 3.500='a'", x.draftText());
        Check.same("draft(1, ..)", 3, x.draft(1, 1, 3, 7, 8));
        Check.same("its text", "3 next 0 0 0", x.draftText());
        Check.same("draft(3, ..)", 0, x.draft(3, 1, 1, 7, 8));
        Check.same("its text", "1 set 0 0 0", x.draftText());
        x.draft(4, 0, 0, 99, -9);
        Check.same("its text", "0 bulk 0 99 -9", x.draftText());
        for (int kind : new int[] {-1, 2, 5, 6, 7, 8}) {
            Check.badArgument(x, "KIND " + kind, () -> x.draft(kind, 0, 0, 0, 0));
        }
        Check.badArgument(x, "LEVEL -1", () -> x.draft(0, -1, 0, 0, 0));
        Check.badArgument(x, "LEVEL 3", () -> x.draft(0, 3, 0, 0, 0));
        Check.badArgument(x, "CONTEXT -1", () -> x.draft(0, 0, -1, 0, 0));
        Check.badArgument(x, "CONTEXT 10", () -> x.draft(0, 0, 10, 0, 0));
        Check.badArgument(x, "FEW -10", () -> x.draft(4, 0, 0, -10, 0));
        Check.badArgument(x, "FEW 100", () -> x.draft(4, 0, 0, 100, 0));
        Check.badArgument(x, "MANY -10", () -> x.draft(4, 0, 0, 0, -10));
        Check.badArgument(x, "MANY 100", () -> x.draft(4, 0, 0, 0, 100));
        x.send(0);
        x.send(0);
        Check.same("the text of one that was SENT", "0 bulk 0 99 -9", x.draftText());
        Check.same("what was SENT of it", "2 0 0 0 0 0 -1 0: 0 bulk 2 99 -9", x.rowText(1));
    }

    private static void promise31() {
        Agenttree x = new Agenttree();
        Check.badState(x, "bind without a NAME", () -> x.bind(0, 0));
        Check.badArgument(x, "bind(-1, 0) without a NAME", () -> x.bind(-1, 0));
        Check.badArgument(x, "bind(6, 0)", () -> x.bind(6, 0));
        x.name(1, 2, -1, -1);
        Check.badState(x, "bind(5, 0) without a SHELF", () -> x.bind(5, 0));
        Check.badArgument(x, "COUNTER -1", () -> x.bind(3, -1));
        Check.badArgument(x, "COUNTER 65536", () -> x.bind(3, 65536));
        Check.badArgument(x, "TICKS -1", () -> x.bind(4, -1));
        Check.same("bind(0, ..)", 1, x.bind(0, -1));
        Check.same("bind(1, least)", 2, x.bind(1, -2147483648));
        Check.same("bind(2, ..)", 3, x.bind(2, -1));
        Check.same("bind(3, 0)", 4, x.bind(3, 0));
        Check.same("bind(3, 65535)", 5, x.bind(3, 65535));
        Check.same("bind(4, 0)", 6, x.bind(4, 0));
        Check.same("bind(4, greatest)", 7, x.bind(4, 2147483647));
        x.name(7, 128, -1, -1);
        x.shelve();
        x.name(3, -1, -1, -1);
        Check.same("bind(5, ..)", 8, x.bind(5, -1));
        Check.same("all of it", "0 get 0 0 0, 1.2=null, 1.2=-2147483648, 1.2='', 1.2=c0, 1.2=c65535, 1.2=t0, 1.2=t2147483647, "
                + "3=7.128", x.draftText());
        Check.badState(x, "a ninth", () -> x.bind(0, 0));
        Check.badArgument(x, "a ninth that is not let", () -> x.bind(3, -1));
        x.shelve();
        Check.is("what was bound stays", x.draftText().endsWith("3=7.128"));
        Check.same("it can be SENT", 0, x.send(0));
        int[] row = Rows.list(Rows.integer(3), Rows.integer(0), Rows.integer(0), Rows.integer(0), Rows.integer(0),
                Rows.integer(0), Rows.integer(0), Rows.octets(""), Rows.integer(0), Rows.scope(0, Rows.pdu(0, 0, 0, 0,
                Rows.binding("1.2", Rows.empty(5)), Rows.binding("1.2", Rows.integer(-2147483648)),
                Rows.binding("1.2", Rows.octets("")), Rows.binding("1.2", Rows.number(65, 0)),
                Rows.binding("1.2", Rows.number(65, 65535)), Rows.binding("1.2", Rows.number(67, 0)),
                Rows.binding("1.2", Rows.number(67, 2147483647)), Rows.binding("3", Rows.name("7.128")))));
        Check.same("its bytes", java.util.Arrays.toString(row), GuardTests.bytes(x));
    }

    private static void promise33() {
        Agenttree x = new Agenttree();
        Check.same("the first ID of the MANAGER 1", 1, x.send(1));
        Check.same("the next one", 3, x.send(1));
        Check.same("the first ID of the MANAGER 0", 0, x.send(0));
        x.passAll(40);
        x.tick(2);
        for (int level = 1; level <= 2; level++) {
            x.draft(1, level, 3, 0, 0);
            Talk.bind(x, "1.128=500");
            int before = x.ofManager(1, 5);
            int id = x.send(1);
            Check.same("its ID", 2 * before + 1, id);
            int[] scope = Rows.scope(3, Rows.pdu(1, id, 0, 0, Rows.binding("1.128", Rows.integer(500))));
            Check.same("its bytes", java.util.Arrays.toString(Rows.sealed(id, level, 7, 1, 2, 1, 1001, 0, scope)),
                    GuardTests.bytes(x));
            x.lose(0);
        }
        int id = x.send(1);
        int[] scope = Rows.scope(3, Rows.pdu(1, id, 0, 0, Rows.binding("1.128", Rows.integer(500))));
        Check.same("with the next SALT", java.util.Arrays.toString(Rows.sealed(id, 2, 7, 1, 2, 1, 1001, 1, scope)),
                GuardTests.bytes(x));
        Check.same("from whom", 1, x.ofRow(0, 0));
        Check.same("to whom", 2, x.ofRow(0, 1));
        Check.same("at which NOW", 2, x.ofRow(0, 4));
    }

    private static void refusedSends() {
        Agenttree x = new Agenttree();
        Check.badPlace(x, "send(-1)", () -> x.send(-1));
        Check.badPlace(x, "send(2)", () -> x.send(2));
        Talk.hold(x, "999.998.997.996.995.994.993.992");
        x.shelve();
        for (int i = 0; i < 5; i++) {
            x.bind(5, 0);
        }
        Talk.spell(x, "123456789");
        x.bind(2, 0);
        // 2 + 18 + 18 for each of five, 2 + 18 + 11: with all the heads 256.
        Check.refused(x, "a row of more than 255 bytes", () -> x.send(0));
        for (int n = 0; n <= 12; n++) {
            x.draft(0, 0, 0, 0, 0);
            for (int i = 0; i < 4; i++) {
                x.bind(5, 0);
            }
            x.bind(0, 0);
            x.noLetters();
            for (int i = 0; i < n; i++) {
                x.letters(i, -1, -1, -1, -1);
            }
            x.bind(2, 0);
            int due = length(n);
            int sent = x.house(0);
            int answer = x.send(0);
            Check.same("a row of " + due, due > 255 ? -9 : 2 * sent, answer);
            if (answer >= 0) {
                Check.same("its bytes", due, x.ofRow(0, 2));
                x.lose(0);
            }
        }
        x.draft(0, 0, 0, 0, 0);
        for (int i = 0; i < 16; i++) {
            x.send(i % 2);
        }
        Check.refused(x, "a row with 16 under way", () -> x.send(1));
        Check.badPlace(x, "send(2) with 16 under way", () -> x.send(2));
        x.lose(3);
        Check.is("with 15 under way", x.send(1) >= 0);
    }

    /** Asks 16 times by the LEVEL 2, again and again; all is answered. */
    private static void askSecretly(Agenttree x, int rounds) {
        for (int round = 0; round < rounds; round++) {
            for (int i = 0; i < 16; i++) {
                x.send(0);
            }
            x.passAll(40);
        }
    }

    /** From 128 on a SALT has two bytes; behind 255 it is 0 again. */
    private static void salts() {
        Agenttree x = new Agenttree();
        Talk.learn(x, 0);
        x.draft(0, 2, 0, 0, 0);
        askSecretly(x, 8);
        x.send(0);
        Check.same("SALT 128 of the MANAGER", "128:", salt(x));
        x.pass(0);
        Check.same("SALT 128 of the agent", "128:", salt(x));
        x.pass(0);
        Check.same("both are known", 130, x.ofManager(0, 7));
        int[] name = Rows.name("999.998.997.996.995.994.993.992");
        Talk.hold(x, "999.998.997.996.995.994.993.992");
        x.shelve();
        // Rows of 254 to 259 bytes, with the SALT.
        for (int n = 0; n <= 5; n++) {
            x.draft(0, 2, 0, 0, 0);
            for (int i = 0; i < 4; i++) {
                x.bind(5, 0);
            }
            x.bind(0, 0);
            Talk.spell(x, "abcdefghijkl".substring(0, n));
            x.bind(2, 0);
            int[] two = Rows.list(name, name);
            int[] scope = Rows.scope(0, Rows.pdu(0, 300, 0, 0, two, two, two, two, Rows.list(name, Rows.empty(5)),
                    Rows.list(name, Rows.octets("abcdefghijkl".substring(0, n)))));
            // A row of the LEVEL 0 between leaves no SALT behind.
            Talk.come(x, 1, Rows.plain(1, 1, Rows.scope(0, Rows.pdu(0, 1, 0, 0))));
            x.lose(0);
            int due = Rows.sealed(300, 2, 7, 1, 0, 0, 1000, 130, scope).length;
            int answer = x.send(0);
            Check.same("a row of " + due, due <= 255, answer >= 0);
            if (answer >= 0) {
                Check.same("its bytes", due, x.ofRow(0, 2));
                x.lose(0);
            }
        }
        int sent = x.ofManager(0, 10);
        x.draft(0, 2, 0, 0, 0);
        askSecretly(x, (256 - sent) / 16);
        for (int i = x.ofManager(0, 10); i < 256; i++) {
            x.send(0);
            x.lose(0);
        }
        x.send(0);
        Check.same("SALT 0 again", "0:", salt(x));
    }

    private static String salt(Agenttree x) {
        return x.rowText(0).split(" ")[7];
    }

    private static int length(int octets) {
        int[] name = Rows.name("999.998.997.996.995.994.993.992");
        int[] two = Rows.list(name, name);
        int[] last = Rows.list(name, Rows.part(4, new int[octets]));
        return Rows.plain(0, 0, Rows.scope(0, Rows.pdu(0, 0, 0, 0, two, two, two, two, Rows.list(name, Rows.empty(5)), last))).length;
    }

    private static final int[] NULL = Rows.binding("1.2", Rows.empty(5));

    private static int[] scope(int kind, int request) {
        return Rows.scope(0, Rows.pdu(kind, request, 0, 0, NULL));
    }

    private static void promise36() {
        Agenttree x = new Agenttree();
        Forge.toManager(x, 0, Rows.open(9, 7, 3, 0, 0, scope(5, 40)));
        Forge.toManager(x, 0, Rows.open(9, 9, 4, 0, 0, scope(5, 40)));
        Forge.toManager(x, 0, Rows.sealed(8, 2, 7, 3, 0, 0, 1000, 0, scope(6, -40)));
        Check.same("three told", 3, x.ofManager(0, 8));
        Check.same("told(0, 0)", "3 0 trap 40 0 0, 1.2=null", x.told(0, 0));
        Check.same("told(0, 1)", "4 0 trap 40 0 0, 1.2=null", x.told(0, 1));
        Check.same("told(0, 2)", "3 0 inform -40 0 0, 1.2=null", x.told(0, 2));
        x.lose(0);
        Forge.toManager(x, 0, Rows.sealed(8, 1, 7, 4, 0, 0, 1000, 0, scope(5, 40)));
        Check.same("a TRAP that was told is dropped", 1, x.ofManager(0, 9));
        Check.same("nothing is SENT", 0, x.rows());
        Forge.toManager(x, 0, Rows.open(8, 7, 4, 0, 0, scope(6, 40)));
        Check.same("an INFORM with the REQUEST of a TRAP is not told", 3, x.ofManager(0, 8));
        Check.same("it is not dropped", 1, x.ofManager(0, 9));
        Check.same("it gets a RESPONSE", "8 0 7 4 0 0 -1 0: 0 response 40 0 0, 1.2=null", x.rowText(0));
        Check.same("the other MANAGER", 0, x.ofManager(1, 8));
        Check.badPlace(x, "told(-1, 0)", () -> x.told(-1, 0));
        Check.badPlace(x, "told(2, 0)", () -> x.told(2, 0));
        Check.badPlace(x, "told(0, -1)", () -> x.told(0, -1));
        Check.badPlace(x, "told(0, 3)", () -> x.told(0, 3));
        Check.badPlace(x, "told(1, 0)", () -> x.told(1, 0));
    }

    private static void wrongInputs() {
        Agenttree x = new Agenttree();
        x.send(0);
        x.pass(0);
        Check.same("the first ANSWER", "0 report 0 0 0, 4.3.0=c1", pass(x));
        Check.same("none of the other MANAGER", "", x.answer(1));
    }

    private static String pass(Agenttree x) {
        x.pass(0);
        return x.answer(0);
    }
}
