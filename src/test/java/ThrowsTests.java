import java.util.ArrayList;
import java.util.Arrays;
import java.util.List;

/**
 * The "Throws" rows of all promises that look at arguments: each argument at its edges and beyond them, alone, by
 * twos and all at once, on a new object, a busy one and one with a full LINE; nothing changes by it.
 */
final class ThrowsTests {
    private static final Class<?> PLACE = IndexOutOfBoundsException.class;
    private static final Class<?> ARGUMENT = IllegalArgumentException.class;
    private static final int LEAST = -2147483648;
    private static final int GREATEST = 2147483647;

    private interface Maker {
        Agenttree make();
    }

    /** Edges of what is let for one argument, what is not let, and by what it throws then. */
    private record Argument(Object[] let, Object[] not, Class<?> thrown) {
        boolean isLet(Object value) {
            return !Arrays.asList(not).contains(value);
        }
    }

    private record Rule(String name, Argument[] arguments) {
        Class<?> due(Object[] values) {
            for (Class<?> thrown : new Class<?>[] {PLACE, ARGUMENT}) {
                for (int i = 0; i < values.length; i++) {
                    if (arguments[i].thrown == thrown && !arguments[i].isLet(values[i])) {
                        return thrown;
                    }
                }
            }
            return null;
        }

        Object let(int argument, int which) {
            Object[] let = arguments[argument].let;
            return let.length > 0 ? let[which % let.length] : arguments[argument].not[0];
        }

        Object[] values() {
            Object[] values = new Object[arguments.length];
            for (int i = 0; i < values.length; i++) {
                values[i] = let(i, 0);
            }
            return values;
        }
    }

    private final List<Rule> rules = new ArrayList<>();
    private final int rows;
    private final int bytes;
    private final int told;

    private ThrowsTests(Agenttree x) {
        rows = x.rows();
        bytes = rows > 0 ? x.ofRow(0, 2) : 0;
        told = x.ofManager(1, 8);
        agent();
        inHand();
        usersAndViews();
        managers();
        line();
        bench();
    }

    static void run() {
        Doc.says("A method that throws an exception changes nothing.",
                "If several exceptions apply, the one that is named first is thrown",
                "exceptions go ahead of REFUSED.");
        quotes();
        Maker[] makers = {Agenttree::new, Face::busy, Face::full};
        for (int m = 0; m < makers.length; m++) {
            String where = new String[] {"new: ", "busy: ", "full: "}[m];
            for (Rule rule : new ThrowsTests(makers[m].make()).rules) {
                throwing(rule, where, makers[m]);
                if (m == 1) {
                    let(rule, where, makers[m]);
                }
            }
        }
    }

    private static void throwing(Rule rule, String where, Maker maker) {
        Agenttree x = maker.make();
        long before = x.digest();
        for (Object[] values : wrongs(rule)) {
            String what = where + rule.name + Arrays.toString(values);
            Check.same(what, rule.due(values), Face.call(x, rule.name, values));
            Check.same(what + ", then digest()", before, x.digest());
        }
        Check.same(where + rule.name + ", what becomes of it", Face.story(maker.make(), 0), Face.story(x, 0));
    }

    private static List<Object[]> wrongs(Rule rule) {
        List<Object[]> all = new ArrayList<>();
        for (int i = 0; i < rule.arguments.length; i++) {
            for (Object value : rule.arguments[i].not) {
                Object[] values = rule.values();
                values[i] = value;
                all.add(values);
            }
            for (int j = 0; j < i; j++) {
                Object[] values = rule.values();
                for (int k : new int[] {i, j}) {
                    values[k] = rule.arguments[k].not.length > 0 ? rule.arguments[k].not[0] : values[k];
                }
                all.add(values);
            }
        }
        Object[] values = rule.values();
        for (int i = 0; i < values.length; i++) {
            values[i] = rule.arguments[i].not.length > 0 ? rule.arguments[i].not[0] : values[i];
        }
        all.add(values);
        all.removeIf(v -> rule.due(v) == null);
        return all;
    }

    /** What is let at its edges throws no such thing. */
    private static void let(Rule rule, String where, Maker maker) {
        for (int i = 0; i < rule.arguments.length; i++) {
            for (int which = 0; which < rule.arguments[i].let.length; which++) {
                Object[] values = rule.values();
                values[i] = rule.let(i, which);
                Object got = Face.call(maker.make(), rule.name, values);
                Check.is(where + rule.name + Arrays.toString(values) + " answered " + got, !(got instanceof Class));
            }
        }
    }

    // ---- what the tables are made of

    private static Argument range(int least, int greatest, Class<?> thrown) {
        List<Object> not = new ArrayList<>();
        for (long n : new long[] {(long) least - 1, (long) greatest + 1, LEAST, GREATEST}) {
            if ((n < least || n > greatest) && n >= LEAST && n <= GREATEST && !not.contains((int) n)) {
                not.add((int) n);
            }
        }
        if (greatest < least) {
            return new Argument(new Object[0], new Object[] {0, -1, 1, LEAST, GREATEST}, thrown);
        }
        return new Argument(new Object[] {least, greatest}, not.toArray(), thrown);
    }

    private static Argument place(int least, int greatest) {
        return range(least, greatest, PLACE);
    }

    private static Argument number(int least, int greatest) {
        return range(least, greatest, ARGUMENT);
    }

    private static Argument flag() {
        return new Argument(new Object[] {true, false}, new Object[0], null);
    }

    /** What is not looked at. */
    private static Argument any() {
        return new Argument(new Object[] {0, -1, LEAST, GREATEST}, new Object[0], null);
    }

    private static Argument just(int number) {
        return new Argument(new Object[] {number}, new Object[0], null);
    }

    private void rule(String name, Argument... arguments) {
        rules.add(new Rule(name, arguments));
    }

    private Argument row() {
        return place(0, rows - 1);
    }

    // ---- the tables

    private void agent() {
        rule("tick", number(1, 40));
        rule("port", place(1, 4), flag());
        rule("traffic", place(1, 4), number(0, 65535), number(0, 65535));
        rule("note", place(0, 1), place(1, 3), place(1, 4), flag());
        rule("most", number(100, 255));
        rule("ofAgent", number(0, 9));
        rule("value", place(0, 1));
        rule("walk", place(0, 4), place(0, 1));
    }

    private void inHand() {
        Argument number = number(-1, 999);
        // The others are let, or the first one alone is a NONE.
        Argument other = new Argument(new Object[] {7, -1, 0, 999}, number.not, ARGUMENT);
        rule("name", number, other, other, other);
        rule("name", other, number, other, other);
        rule("longer", number, other, number, number);
        rule("longer", number, number, number, other);
        Argument b = number(-1, 255);
        rule("letters", b, b, b, b, b);
    }

    private void usersAndViews() {
        rule("user", place(0, 4), flag(), number(0, 9999), number(0, 2));
        rule("access", place(0, 4), place(0, 1), number(0, 2), number(-1, 3), number(-1, 3), number(-1, 3));
        rule("ofUser", place(0, 4), number(0, 10));
        rule("family", place(0, 3), number(0, 255), flag());
        rule("unfamily", place(0, 3), number(0, 255));
        rule("families", place(0, 3));
        rule("has", place(0, 3));
        rule("target", place(0, 3), flag(), place(0, 1), place(0, 4), number(0, 2), flag());
        rule("ofTarget", place(0, 3), number(0, 4));
    }

    private void managers() {
        rule("speak", place(0, 1), place(0, 4), number(0, 9999));
        rule("forget", place(0, 1));
        Argument kind = new Argument(new Object[] {0, 1, 3}, new Object[] {2, -1, 5, 6, 7, 8, LEAST, GREATEST}, ARGUMENT);
        rule("draft", kind, number(0, 2), number(0, 9), any(), any());
        rule("draft", just(4), number(0, 2), number(0, 9), number(-9, 99), number(-9, 99));
        Argument what = new Argument(new Object[] {0, 1, 2, 5}, new Object[] {-1, 6, LEAST, GREATEST}, ARGUMENT);
        rule("bind", what, any());
        rule("bind", just(3), number(0, 65535));
        rule("bind", just(4), number(0, GREATEST));
        rule("send", place(0, 1));
        rule("answer", place(0, 1));
        rule("ofManager", place(0, 1), number(0, 11));
        Argument manager = new Argument(new Object[] {1}, new Object[] {-1, 2, LEAST, GREATEST}, PLACE);
        rule("told", manager, place(0, told - 1));
    }

    private void line() {
        rule("ofRow", row(), number(0, 4));
        rule("rowText", row());
        rule("byteOf", row(), place(0, bytes - 1));
        rule("pass", row());
        rule("passAll", number(1, 40));
        rule("lose", row());
        rule("twice", row());
        rule("spoil", row(), place(0, bytes - 1), number(0, 255));
        rule("record", row(), place(0, 3));
        rule("replay", place(0, 3));
    }

    private void bench() {
        Argument b = number(-1, 255);
        rule("lay", b, b, b, b, b);
        rule("cut", number(1, 255));
        rule("fetch", row());
        rule("sum", number(0, 9999));
        rule("cipher", number(0, 9999), number(0, 999), number(0, 255));
        rule("inject", place(0, 1));
        rule("house", number(0, 4));
    }

    // ---- the words that the tables stand for

    private static void index(int promise, String when) {
        Doc.promise(promise, "Throws `IndexOutOfBoundsException` if " + when);
    }

    private static void argument(int promise, String when) {
        Doc.promise(promise, "Throws `IllegalArgumentException` if " + when);
    }

    private static void quotes() {
        argument(2, "many is not 1 to 40");
        index(4, "port is not 1 to 4");
        index(5, "port is not 1 to 4");
        argument(5, "in or out is not 0 to 65535");
        index(6, "context is not 0 or 1, i not 1 to 3, or j not 1 to 4");
        argument(7, "bytes is not 100 to 255");
        argument(8, "what is not 0 to 9");
        index(9, "context is not 0 or 1");
        index(10, "user is not 0 to 4, or context not 0 or 1");
        argument(11, "one is not NONE to 999");
        argument(12, "one is not NONE to 999");
        argument(17, "one is not NONE to 255");
        index(19, "user is not 0 to 4");
        argument(19, "key is not 0 to 9999, or highest not 0 to 2");
        index(20, "user is not 0 to 4, or context not 0 or 1");
        argument(20, "least is not 0 to 2, or one of the others not NONE to 3");
        index(21, "user is not 0 to 4");
        argument(21, "what is not 0 to 10");
        for (int promise = 22; promise <= 25; promise++) {
            index(promise, "view is not 0 to 3");
        }
        argument(22, "mask is not 0 to 255");
        argument(23, "mask is not 0 to 255");
        index(26, "target is not 0 to 3, manager not 0 or 1, or user not 0 to 4");
        argument(26, "level is not 0 to 2");
        index(27, "target is not 0 to 3");
        argument(27, "what is not 0 to 4");
        index(28, "manager is not 0 or 1, or user not 0 to 4");
        argument(28, "key is not 0 to 9999");
        index(29, "manager is not 0 or 1");
        argument(30, "kind is not 0, 1, 3 or 4, level not 0 to 2, context not 0 to 9, or, of a BULK, few or many not -9 to 99");
        argument(31, "what is not 0 to 5, the number of a COUNTER not 0 to 65535, or that of TICKS below 0");
        for (int promise = 33; promise <= 35; promise++) {
            index(promise, "manager is not 0 or 1");
        }
        argument(35, "what is not 0 to 11");
        index(36, "manager is not 0 or 1, or there is no such NOTICE");
        quotesOfTheLine();
    }

    private static void quotesOfTheLine() {
        for (int promise : new int[] {38, 39, 41, 43, 44, 50}) {
            index(promise, "there is no such row");
        }
        argument(38, "what is not 0 to 4");
        index(40, "there is no such row, or place");
        argument(42, "many is not 1 to 40");
        index(45, "there is no such row, or place");
        argument(45, "with is not 0 to 255");
        index(46, "there is no such row, or slot is not 0 to 3");
        index(47, "slot is not 0 to 3");
        argument(48, "one is not NONE to 255");
        argument(49, "many is not 1 to 255");
        argument(53, "key is not 0 to 9999");
        argument(54, "key is not 0 to 9999, boots not 0 to 999, or salt not 0 to 255");
        index(55, "manager is not 0 or 1");
        argument(56, "what is not 0 to 4");
    }
}
