/** Promises 1 to 10: a new object, and the agent from outside. */
final class AgentTests {
    private AgentTests() {
    }

    static void run() {
        promise1();
        promise2();
        promise3();
        promise4();
        promise5();
        promise6();
        promise7();
        promise8();
        promise9();
        promise10();
    }

    private static void promise1() {
        Agenttree x = new Agenttree();
        int[] agent = {0, 1, 0, 255, 31, 2, 0, 1000, 0, 0};
        for (int what = 0; what < 10; what++) {
            Check.same("new: ofAgent(" + what + ")", agent[what], x.ofAgent(what));
        }
        int[] user = {0, 1000, 2, 0, 0, 0, 0, 0, -1, -1, -1};
        for (int u = 0; u < 5; u++) {
            for (int what = 0; what < 11; what++) {
                int due = what == 0 ? (u < 2 ? 1 : 0) : what == 1 ? 1000 + u : user[what];
                Check.same("new: ofUser(" + u + ", " + what + ")", due, x.ofUser(u, what));
            }
        }
        for (int t = 0; t < 4; t++) {
            for (int what = 0; what < 5; what++) {
                Check.same("new: ofTarget(" + t + ", " + what + ")", 0, x.ofTarget(t, what));
            }
            Check.same("new: families(" + t + ")", t == 0 ? "1/0+" : "", x.families(t));
        }
        for (int m = 0; m < 2; m++) {
            for (int what = 0; what < 12; what++) {
                int due = what == 0 ? m : what == 1 ? 1000 + m : what == 11 ? -1 : 0;
                Check.same("new: ofManager(" + m + ", " + what + ")", due, x.ofManager(m, what));
            }
            Check.same("new: answer(" + m + ")", "", x.answer(m));
        }
        for (int what = 0; what < 5; what++) {
            Check.same("new: house(" + what + ")", 0, x.house(what));
        }
        Check.same("new: rows()", 0, x.rows());
        Check.same("new: hand()", "", x.hand());
        Check.same("new: draftText()", "0 get 0 0 0", x.draftText());
        Check.same("new: read()", "fault 0", x.read());
        Check.is("new: isSound()", x.isSound());
        Check.same("new: 1.1.0", "''", Talk.value(x, 0, "1.1.0"));
        Check.same("new: 1.2.0", "0", Talk.value(x, 1, "1.2.0"));
        Check.same("new: 1.3.0", "t0", Talk.value(x, 0, "1.3.0"));
        for (int p = 1; p <= 4; p++) {
            Check.same("new: 2.1.p", "" + p, Talk.value(x, 0, "2.1." + p));
            Check.same("new: 2.2.p", "''", Talk.value(x, 0, "2.2." + p));
            Check.same("new: 2.3.p", "1", Talk.value(x, 0, "2.3." + p));
            Check.same("new: 2.4.p", "c0", Talk.value(x, 0, "2.4." + p));
            Check.same("new: 2.5.p", "c0", Talk.value(x, 0, "2.5." + p));
        }
        Check.same("new: counters", "0 0 0 0 0 0 0 0", Talk.counters(x));
    }

    private static void promise2() {
        Agenttree x = new Agenttree();
        Check.same("tick(1)", 1, x.tick(1));
        Check.same("tick(40)", 41, x.tick(40));
        Check.same("NOW after ticks", 41, x.ofAgent(0));
        Check.same("TIME after ticks", 41, x.ofAgent(2));
        Check.same("1.3.0 after ticks", "t41", Talk.value(x, 0, "1.3.0"));
        Check.badArgument(x, "tick(0)", () -> x.tick(0));
        Check.badArgument(x, "tick(41)", () -> x.tick(41));
        Check.badArgument(x, "tick(-1)", () -> x.tick(-1));
    }

    private static void promise3() {
        Agenttree x = new Agenttree();
        x.tick(7);
        x.traffic(1, 5, 6);
        x.note(1, 1, 1, true);
        Talk.learn(x, 0);
        Talk.ask(x, 0, Talk.GET, 1, 0);
        Check.same("TAKEN ahead of restart()", 1, x.ofAgent(9));
        Check.same("restart()", 2, x.restart());
        Check.same("BOOTS", 2, x.ofAgent(1));
        Check.same("TIME", 0, x.ofAgent(2));
        Check.same("1.3.0", "t0", Talk.value(x, 0, "1.3.0"));
        Check.same("NOW", 7, x.ofAgent(0));
        Check.same("TAKEN", 0, x.ofAgent(9));
        Check.same("a COUNTER stays", "c5", Talk.value(x, 0, "2.4.1"));
        Check.same("a NOTE stays", "1", Talk.value(x, 1, "3.3.1.1"));
        Check.same("restart() again", 3, x.restart());
    }

    private static void promise4() {
        Agenttree x = new Agenttree();
        Check.same("port(1, true)", 0, x.port(1, true));
        Check.same("port(1, false)", 1, x.port(1, false));
        Check.same("2.3.1", "2", Talk.value(x, 0, "2.3.1"));
        Check.same("port(1, false) again", 0, x.port(1, false));
        Check.same("port(4, false)", 1, x.port(4, false));
        Check.same("port(4, true)", 1, x.port(4, true));
        Check.same("2.3.4", "1", Talk.value(x, 0, "2.3.4"));
        Check.badPlace(x, "port(0, true)", () -> x.port(0, true));
        Check.badPlace(x, "port(5, false)", () -> x.port(5, false));
    }

    private static void promise5() {
        Agenttree x = new Agenttree();
        Check.same("traffic(2, 65535, 1)", 65535, x.traffic(2, 65535, 1));
        Check.same("traffic(2, 1, 65535)", 0, x.traffic(2, 1, 65535));
        Check.same("2.4.2", "c0", Talk.value(x, 0, "2.4.2"));
        Check.same("2.5.2", "c0", Talk.value(x, 0, "2.5.2"));
        Check.same("traffic(2, 0, 9)", 0, x.traffic(2, 0, 9));
        Check.same("2.5.2", "c9", Talk.value(x, 0, "2.5.2"));
        Check.same("traffic(4, 65535, 0)", 65535, x.traffic(4, 65535, 0));
        Check.same("traffic(4, 65535, 0) again", 65534, x.traffic(4, 65535, 0));
        Check.badPlace(x, "traffic(0, ..)", () -> x.traffic(0, 1, 1));
        Check.badPlace(x, "traffic(5, ..) ahead of the argument", () -> x.traffic(5, -1, 1));
        Check.badArgument(x, "traffic(1, -1, 0)", () -> x.traffic(1, -1, 0));
        Check.badArgument(x, "traffic(1, 65536, 0)", () -> x.traffic(1, 65536, 0));
        Check.badArgument(x, "traffic(1, 0, -1)", () -> x.traffic(1, 0, -1));
        Check.badArgument(x, "traffic(1, 0, 65536)", () -> x.traffic(1, 0, 65536));
    }

    private static void promise6() {
        Agenttree x = new Agenttree();
        Check.same("a NOTE goes that is not there", 0, x.note(0, 1, 1, false));
        Check.same("a NOTE comes", 1, x.note(0, 1, 1, true));
        Check.same("a NOTE comes that is there", 0, x.note(0, 1, 1, true));
        Check.same("its text", "''", Talk.value(x, 0, "3.1.1.1"));
        Check.same("its number", "0", Talk.value(x, 0, "3.2.1.1"));
        Check.same("its status", "1", Talk.value(x, 0, "3.3.1.1"));
        Check.same("not in the other CONTEXT", "", Talk.value(x, 1, "3.3.1.1"));
        Check.same("three OBJECTS more", 34, x.ofAgent(4));
        Check.same("a NOTE of the CONTEXT 1", 1, x.note(1, 3, 4, true));
        Check.same("OBJECTS of the CONTEXT 1", 5, x.ofAgent(5));
        Talk.seeAll(x);
        Talk.ask(x, 0, Talk.SET, 0, 0);
        Talk.ask(x, 0, Talk.SET, 0, 0, "3.1.1.1='ab'", "3.2.1.1=-5", "3.3.1.1=2");
        Check.same("a text that was set", "'ab'", Talk.value(x, 0, "3.1.1.1"));
        Check.same("a NOTE goes", 1, x.note(0, 1, 1, false));
        Check.same("gone", "", Talk.value(x, 0, "3.1.1.1"));
        x.note(0, 1, 1, true);
        Check.same("it comes anew: text", "''", Talk.value(x, 0, "3.1.1.1"));
        Check.same("it comes anew: number", "0", Talk.value(x, 0, "3.2.1.1"));
        Check.same("it comes anew: status", "1", Talk.value(x, 0, "3.3.1.1"));
        int[][] bad = {{-1, 1, 1}, {2, 1, 1}, {0, 0, 1}, {0, 4, 1}, {0, 1, 0}, {0, 1, 5}};
        for (int[] b : bad) {
            Check.badPlace(x, "note(" + b[0] + ", " + b[1] + ", " + b[2] + ")", () -> x.note(b[0], b[1], b[2], true));
        }
    }

    private static void promise7() {
        Agenttree x = new Agenttree();
        Check.same("most(100)", 255, x.most(100));
        Check.same("most(255)", 100, x.most(255));
        Check.same("most(101)", 255, x.most(101));
        Check.same("MOST", 101, x.ofAgent(3));
        Check.badArgument(x, "most(99)", () -> x.most(99));
        Check.badArgument(x, "most(256)", () -> x.most(256));
    }

    private static void promise8() {
        Agenttree x = new Agenttree();
        Check.badArgument(x, "ofAgent(-1)", () -> x.ofAgent(-1));
        Check.badArgument(x, "ofAgent(10)", () -> x.ofAgent(10));
        Talk.learn(x, 0);
        Talk.ask(x, 0, Talk.GET, 2, 0);
        Talk.ask(x, 0, Talk.GET, 1, 0);
        Check.same("rows of the LEVEL 2 that the agent SENT", 1, x.ofAgent(8));
        Check.same("TAKEN", 2, x.ofAgent(9));
        x.tick(30);
        Check.same("TAKEN 30 TICKS ago", 2, x.ofAgent(9));
        x.tick(1);
        Check.same("TAKEN 31 TICKS ago", 0, x.ofAgent(9));
    }

    private static void promise9() {
        Agenttree x = new Agenttree();
        Check.badState(x, "value(0) without a NAME", () -> x.value(0));
        Check.badPlace(x, "value(2) without a NAME", () -> x.value(2));
        String[] none = {"1", "1.1", "1.1.1", "1.4.0", "2.1.0", "2.1.5", "2.6.1", "3.1.1.1", "3.1.1", "4.9.0",
            "4.1.0.0", "5.1.0", "1.1.0.0", "0", "2.1.1.1"};
        for (String name : none) {
            Check.same("value of " + name, "", Talk.value(x, 0, name));
        }
        Check.same("value of 4.8.0", "c0", Talk.value(x, 0, "4.8.0"));
        for (String name : new String[] {"1.3.0", "2.1.1", "4.1.0"}) {
            Check.same("value of " + name + " in the CONTEXT 1", "", Talk.value(x, 1, name));
        }
        Check.same("value of 1.1.0 in the CONTEXT 1", "''", Talk.value(x, 1, "1.1.0"));
        Check.badPlace(x, "value(-1)", () -> x.value(-1));
    }

    private static void promise10() {
        Agenttree x = new Agenttree();
        Check.same("walk by the first VIEW", "1.1.0 1.2.0 1.3.0", x.walk(0, 0));
        Check.same("walk of one that is not known", "1.1.0 1.2.0 1.3.0", x.walk(4, 0));
        Check.same("walk without a VIEW", "", x.walk(0, 1));
        x.note(1, 2, 1, true);
        x.note(1, 1, 4, true);
        x.access(0, 1, 0, 0, -1, -1);
        Talk.hold(x, "3");
        x.family(0, 0, true);
        Check.same("walk of the CONTEXT 1",
                "1.1.0 1.2.0 3.1.1.4 3.1.2.1 3.2.1.4 3.2.2.1 3.3.1.4 3.3.2.1", x.walk(0, 1));
        Talk.hold(x, "4");
        x.family(1, 0, true);
        x.access(3, 0, 0, 1, -1, -1);
        Check.same("walk by the VIEW 1", "4.1.0 4.2.0 4.3.0 4.4.0 4.5.0 4.6.0 4.7.0 4.8.0", x.walk(3, 0));
        x.access(3, 0, 0, -1, 0, 0);
        Check.same("walk by no READ VIEW", "", x.walk(3, 0));
        Check.badPlace(x, "walk(-1, 0)", () -> x.walk(-1, 0));
        Check.badPlace(x, "walk(5, 0)", () -> x.walk(5, 0));
        Check.badPlace(x, "walk(0, -1)", () -> x.walk(0, -1));
        Check.badPlace(x, "walk(0, 2)", () -> x.walk(0, 2));
    }
}
