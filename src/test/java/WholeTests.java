/** Promises 56 to 59: the whole. */
final class WholeTests {
    private WholeTests() {
    }

    static void run() {
        promises56And57();
        promises58And59();
    }

    private static void promises56And57() {
        Agenttree x = new Agenttree();
        Check.badArgument(x, "house(-1)", () -> x.house(-1));
        Check.badArgument(x, "house(5)", () -> x.house(5));
        Check.same("knock()", 1, x.knock());
        Check.same("knock() again", 2, x.knock());
        Check.same("knocked", 2, x.house(4));
        for (int i = 0; i < 16; i++) {
            x.send(0);
        }
        x.send(0);
        Check.same("REFUSED", 1, x.house(3));
        Check.same("SENT", 16, x.house(0));
        x.lose(0);
        x.twice(0);
        x.passAll(3);
        Check.same("SENT", 19, x.house(0));
        Check.same("LOST", 1, x.house(1));
        Check.same("came", 3, x.house(2));
    }

    private static void promises58And59() {
        Check.same("digest() of a new one", Digests.of(new Agenttree()), new Agenttree().digest());
        Agenttree x = manyThings();
        long d = x.digest();
        Check.same("digest() of many things", Digests.of(manyThings()), d);
        Check.same("it changes nothing", d, x.digest());
        Check.is("isSound()", x.isSound());
        x.cut(1);
        Check.is("what is on the BENCH counts", d != x.digest());
    }

    private static Agenttree manyThings() {
        Agenttree x = new Agenttree();
        Talk.seeAll(x);
        Talk.learn(x, 0);
        Talk.ask(x, 0, Talk.SET, 2, 0, "3.3.1.2=4", "3.1.1.2='hello'", "2.3.3=2");
        x.target(0, true, 0, 0, 2, true);
        x.target(1, true, 1, 1, 0, false);
        x.port(2, false);
        x.twice(0);
        x.passAll(2);
        x.lay(48, 3, 2, 1, 3);
        x.spoil(0, 1, 9);
        x.access(1, 1, 1, 0, 0, 0);
        x.traffic(4, 60000, 65535);
        x.knock();
        Talk.hold(x, "9.8.7");
        return x;
    }
}
