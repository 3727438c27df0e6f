/** Promises 19 to 27: users, views and targets as they are told. */
final class ViewTests {
    private ViewTests() {
    }

    static void run() {
        promise19();
        promises20And21();
        promises22And24();
        promise23();
        promise25();
        promises26And27();
    }

    private static void promise19() {
        Agenttree x = new Agenttree();
        Check.same("user(0, ..) was known", 1, x.user(0, false, 0, 0));
        Check.same("user(4, ..) was not", 0, x.user(4, true, 9999, 2));
        Check.same("known", 0, x.ofUser(0, 0));
        Check.same("KEY", 0, x.ofUser(0, 1));
        Check.same("HIGHEST", 0, x.ofUser(0, 2));
        Check.same("known", 1, x.ofUser(4, 0));
        Check.same("KEY", 9999, x.ofUser(4, 1));
        Check.same("HIGHEST", 2, x.ofUser(4, 2));
        Check.badPlace(x, "user(-1, ..)", () -> x.user(-1, true, 0, 0));
        Check.badPlace(x, "user(5, ..) ahead of the KEY", () -> x.user(5, true, -1, 0));
        Check.badArgument(x, "KEY -1", () -> x.user(0, true, -1, 0));
        Check.badArgument(x, "KEY 10000", () -> x.user(0, true, 10000, 0));
        Check.badArgument(x, "HIGHEST -1", () -> x.user(0, true, 0, -1));
        Check.badArgument(x, "HIGHEST 3", () -> x.user(0, true, 0, 3));
    }

    private static void promises20And21() {
        Agenttree x = new Agenttree();
        Check.same("access(2, 1, ..)", 0, x.access(2, 1, 2, 3, -1, 1));
        Check.same("access(2, 0, ..)", 0, x.access(2, 0, 1, -1, 2, 3));
        Check.same("LEAST before", 2, x.access(2, 1, 2, 3, -1, 1));
        int[] due = {0, 1002, 2, 1, -1, 2, 3, 2, 3, -1, 1};
        for (int what = 0; what < 11; what++) {
            Check.same("ofUser(2, " + what + ")", due[what], x.ofUser(2, what));
        }
        Check.badPlace(x, "access(-1, ..)", () -> x.access(-1, 0, 0, 0, 0, 0));
        Check.badPlace(x, "access(5, ..)", () -> x.access(5, 0, 0, 0, 0, 0));
        Check.badPlace(x, "access(0, -1, ..)", () -> x.access(0, -1, 0, 0, 0, 0));
        Check.badPlace(x, "access(0, 2, ..) ahead of LEAST", () -> x.access(0, 2, 9, 0, 0, 0));
        Check.badArgument(x, "LEAST -1", () -> x.access(0, 0, -1, 0, 0, 0));
        Check.badArgument(x, "LEAST 3", () -> x.access(0, 0, 3, 0, 0, 0));
        for (int b : new int[] {-2, 4}) {
            Check.badArgument(x, "READ " + b, () -> x.access(0, 0, 0, b, 0, 0));
            Check.badArgument(x, "WRITE " + b, () -> x.access(0, 0, 0, 0, b, 0));
            Check.badArgument(x, "NOTE " + b, () -> x.access(0, 0, 0, 0, 0, b));
        }
        Check.badPlace(x, "ofUser(-1, 0)", () -> x.ofUser(-1, 0));
        Check.badPlace(x, "ofUser(5, 11)", () -> x.ofUser(5, 11));
        Check.badArgument(x, "ofUser(0, -1)", () -> x.ofUser(0, -1));
        Check.badArgument(x, "ofUser(0, 11)", () -> x.ofUser(0, 11));
    }

    private static void promises22And24() {
        Agenttree x = new Agenttree();
        Check.badState(x, "family without a NAME", () -> x.family(0, 0, true));
        Check.badArgument(x, "family with MASK 256 without a NAME", () -> x.family(0, 256, true));
        Check.badPlace(x, "family(4, 256, ..)", () -> x.family(4, 256, true));
        Check.badPlace(x, "family(-1, ..)", () -> x.family(-1, 0, true));
        Check.badArgument(x, "family(0, -1, ..)", () -> x.family(0, -1, true));
        Talk.hold(x, "2.1");
        Check.same("family(3, 255, false)", 1, x.family(3, 255, false));
        Check.same("family(3, 0, true)", 2, x.family(3, 0, true));
        Talk.hold(x, "2");
        Check.same("family(3, 1, true)", 3, x.family(3, 1, true));
        Talk.hold(x, "10.0.0.0.0.0.0.999");
        Check.same("family(3, 128, true)", 4, x.family(3, 128, true));
        Talk.hold(x, "2.0.5");
        Check.same("family(3, 2, false)", 5, x.family(3, 2, false));
        Talk.hold(x, "1.7");
        Check.same("family(3, 3, true)", 6, x.family(3, 3, true));
        Check.same("families by ORDER and MASK",
                "1.7/3+, 2/1+, 2.0.5/2-, 2.1/0+, 2.1/255-, 10.0.0.0.0.0.0.999/128+", x.families(3));
        Check.badState(x, "a seventh FAMILY", () -> x.family(3, 4, true));
        Check.same("one of six becomes OUT", 6, x.family(3, 3, false));
        Check.same("families then",
                "1.7/3-, 2/1+, 2.0.5/2-, 2.1/0+, 2.1/255-, 10.0.0.0.0.0.0.999/128+", x.families(3));
        Check.same("another VIEW", "1/0+", x.families(0));
        Check.badPlace(x, "families(-1)", () -> x.families(-1));
        Check.badPlace(x, "families(4)", () -> x.families(4));
    }

    private static void promise23() {
        Agenttree x = new Agenttree();
        Check.badState(x, "unfamily without a NAME", () -> x.unfamily(0, 0));
        Check.badArgument(x, "unfamily(0, 256)", () -> x.unfamily(0, 256));
        Check.badArgument(x, "unfamily(0, -1)", () -> x.unfamily(0, -1));
        Check.badPlace(x, "unfamily(4, -1)", () -> x.unfamily(4, -1));
        Check.badPlace(x, "unfamily(-1, 0)", () -> x.unfamily(-1, 0));
        Talk.hold(x, "1");
        Check.refused(x, "unfamily with another MASK", () -> x.unfamily(0, 1));
        Check.refused(x, "unfamily of another VIEW", () -> x.unfamily(1, 0));
        Talk.hold(x, "1.1");
        Check.refused(x, "unfamily with another NAME", () -> x.unfamily(0, 0));
        x.family(0, 0, false);
        x.family(0, 9, true);
        Talk.hold(x, "0");
        x.family(0, 0, true);
        Talk.hold(x, "1.1");
        Check.same("one goes", 3, x.unfamily(0, 0));
        Check.same("those that stay", "0/0+, 1/0+, 1.1/9+", x.families(0));
        Talk.hold(x, "0");
        Check.same("the first one goes", 2, x.unfamily(0, 0));
        Talk.hold(x, "1.1");
        Check.same("the last one goes", 1, x.unfamily(0, 9));
        Talk.hold(x, "1");
        Check.same("the only one goes", 0, x.unfamily(0, 0));
        Check.same("none", "", x.families(0));
        x.family(0, 7, false);
        Check.same("one comes again", "1/7-", x.families(0));
    }

    private static void put(Agenttree x, String name, int mask, boolean isIn) {
        Talk.hold(x, name);
        x.family(1, mask, isIn);
    }

    private static void has(Agenttree x, String name, boolean due) {
        Talk.hold(x, name);
        Check.same("has " + name + " by " + x.families(1), due, x.has(1));
    }

    private static void promise25() {
        Agenttree x = new Agenttree();
        Check.badState(x, "has without a NAME", () -> x.has(0));
        Check.badPlace(x, "has(4) without a NAME", () -> x.has(4));
        Check.badPlace(x, "has(-1)", () -> x.has(-1));
        has(x, "1", false);
        put(x, "2.3", 0, true);
        has(x, "2.3", true);
        has(x, "2.3.4.5", true);
        has(x, "2", false);
        has(x, "2.4", false);
        put(x, "2.3.4", 2, false);
        has(x, "2.3.4", false);
        has(x, "2.3.5", true);
        // The MASK lets each number stand at the second place.
        put(x, "2.0.7", 2, true);
        has(x, "2.999.7", true);
        has(x, "2.999.8", false);
        // Both 2.0.7 and 2.3.7 have three numbers: the greater NAME tells.
        put(x, "2.3.7", 0, false);
        has(x, "2.3.7.1", false);
        has(x, "2.4.7.1", true);
        // The same NAME: the greater MASK tells.
        put(x, "2.3.7", 4, true);
        has(x, "2.3.7", true);
        has(x, "2.3.6", true);
        Agenttree y = new Agenttree();
        put(y, "5.5", 3, true);
        has(y, "1.1", true);
        has(y, "1", false);
        has(y, "9.9.9", true);
        put(y, "5.5", 255, false);
        has(y, "1.1", false);
        put(y, "0.0.0.0.0.0.0.0", 255, true);
        has(y, "1.2.3.4.5.6.7.8", true);
        has(y, "1.2.3.4.5.6.7", false);
        put(y, "0.0.0.0.0.0.0.0", 127, false);
        has(y, "1.2.3.4.5.6.7.0", true);
        put(y, "0.0.0.0.0.0.0.1", 127, false);
        has(y, "1.2.3.4.5.6.7.1", false);
        has(y, "1.2.3.4.5.6.7.2", true);
        Check.is("isSound() with all these", y.isSound());
    }

    private static void promises26And27() {
        Agenttree x = new Agenttree();
        Check.same("target(3, ..)", 0, x.target(3, true, 1, 4, 2, true));
        int[] due = {1, 1, 4, 2, 1};
        for (int what = 0; what < 5; what++) {
            Check.same("ofTarget(3, " + what + ")", due[what], x.ofTarget(3, what));
        }
        Check.same("target(3, ..) was on", 1, x.target(3, false, 0, 0, 0, false));
        Check.same("target(3, ..) was off", 0, x.target(3, false, 0, 0, 0, false));
        Check.badPlace(x, "target(-1, ..)", () -> x.target(-1, true, 0, 0, 0, true));
        Check.badPlace(x, "target(4, ..)", () -> x.target(4, true, 0, 0, 0, true));
        Check.badPlace(x, "MANAGER -1", () -> x.target(0, true, -1, 0, 0, true));
        Check.badPlace(x, "MANAGER 2", () -> x.target(0, true, 2, 0, 0, true));
        Check.badPlace(x, "USER -1", () -> x.target(0, true, 0, -1, 0, true));
        Check.badPlace(x, "USER 5 ahead of LEVEL 3", () -> x.target(0, true, 0, 5, 3, true));
        Check.badArgument(x, "LEVEL -1", () -> x.target(0, true, 0, 0, -1, true));
        Check.badArgument(x, "LEVEL 3", () -> x.target(0, true, 0, 0, 3, true));
        Check.badPlace(x, "ofTarget(-1, 0)", () -> x.ofTarget(-1, 0));
        Check.badPlace(x, "ofTarget(4, 5)", () -> x.ofTarget(4, 5));
        Check.badArgument(x, "ofTarget(0, -1)", () -> x.ofTarget(0, -1));
        Check.badArgument(x, "ofTarget(0, 5)", () -> x.ofTarget(0, 5));
    }
}
