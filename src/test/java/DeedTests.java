import java.util.ArrayList;
import java.util.Arrays;
import java.util.List;
import java.util.TreeSet;

/** What each call does, by each of its parameters, and that it does nothing else: all that an object tells is compared. */
final class DeedTests {
    private static final String BINDINGS = ", 1=null, 2.3=null";

    private DeedTests() {
    }

    static void run() {
        whatTheBaseTells();
        ticks();
        restarts();
        ports();
        traffic();
        notes();
        most();
        whatOfAgentTells();
        valuesAndWalks();
        hand();
        users();
        accesses();
        whatOfUserTells();
        families();
        viewsByTheirNumbers();
        targets();
        whatOfTargetTells();
        speaking();
        forgetting();
        drafts();
        bindings();
        sending();
        whatOfManagerTells();
        answersAndNotices();
        rowsByTheirNumbers();
        linesOfRows();
        records();
        bench();
        sumsAndCiphers();
        injecting();
        whatHouseTells();
        callsThatOnlyTell();
        theLastCalls();
    }

    /** Some of everything; all that is under way is of the LEVEL 0. */
    private static Agenttree base() {
        Agenttree x = new Agenttree();
        Talk.seeAll(x);
        x.access(0, 1, 0, 0, 0, 0);
        for (int user = 1; user <= 4; user++) {
            x.access(user, 0, 0, -1, 0, 0);
        }
        x.note(0, 1, 2, true);
        x.note(1, 3, 4, true);
        x.traffic(2, 65535, 40000);
        x.send(0);
        x.send(1);
        x.passAll(4);
        x.target(0, true, 0, 0, 0, true);
        x.target(2, true, 1, 1, 0, false);
        x.tick(3);
        x.port(3, false);
        x.pass(1);
        x.draft(Talk.SET, 1, 0, 0, 0);
        Talk.bind(x, "1.2.0=5", "1.1.0='abc'");
        x.send(0);
        x.pass(1);
        x.pass(1);
        x.draft(Talk.BULK, 0, 0, 1, 3);
        Talk.bind(x, "1", "2.3");
        x.send(1);
        x.record(1, 2);
        x.send(0);
        x.spoil(2, 0, 49);
        Talk.hold(x, "2.3");
        x.shelve();
        Talk.hold(x, "2.3.1");
        x.lay(48, 3, 2, 1, 4);
        x.knock();
        x.tick(1);
        return x;
    }

    /** A call that answers, and changes just these answers ("call=answer" each) of an object like base(). */
    private static void deed(Object answer, String[] changes, String name, Object... arguments) {
        Agenttree x = base();
        String what = name + Arrays.toString(arguments);
        Check.same(what, answer, Face.call(x, name, arguments));
        Check.same(what + ", what it changes", String.join("\n", new TreeSet<>(Arrays.asList(changes))),
                String.join("\n", Shown.changes(base(), x)));
    }

    private static String[] just(String... changes) {
        return changes;
    }

    /** A row of the LEVEL 0 under way, as Shown tells it. */
    private static String row(int k, int from, int to, int at, int id, int boots, int time, int user, String scope, int bytes) {
        return "row " + k + "=" + from + " " + to + " " + bytes + " -1 " + at + " / " + id + " 0 7 " + boots + " " + time + " " + user + " -1 0: "
                + scope;
    }

    private static int[] binding(String name, int tag, int value) {
        return Rows.binding(name, Rows.number(tag, value));
    }

    private static int length(int id, int boots, int time, int user, int kind, int status, int index, int[]... bindings) {
        return Rows.open(id, 7, boots, time, user, Rows.scope(0, Rows.pdu(kind, id, status, index, bindings))).length;
    }

    private static void whatTheBaseTells() {
        Check.same("it is the same each time", List.of(), Shown.changes(base(), base()));
        Agenttree x = base();
        Check.same("the agent", "4 1 4 255 34 5 1 1002 0 1", all(x, "ofAgent", 10));
        Check.same("the MANAGER 0", "0 1000 7 1 4 3 1 2 0 0 0 2", all(x, "ofManager", 12, 0));
        Check.same("the MANAGER 1", "1 1001 7 1 4 2 1 1 1 0 0 1", all(x, "ofManager", 12, 1));
        Check.same("the whole", "10 0 7 0 1", all(x, "house", 5));
        Check.same("a row", "1001 0 7 1 3 0 -1 0: 0 inform 1001 0 0, 1.3.0=t3, 2.1.3=3, 2.3.3=2", x.rowText(0));
        Check.same("a row", "3 0 7 1 3 1 -1 0: 0 bulk 3 1 3" + BINDINGS, x.rowText(1));
        Check.same("a row", "fault 0", x.rowText(2));
    }

    /** What a call tells of 0, 1, 2, .. as its last argument. */
    private static String all(Agenttree x, String name, int many, Object... ahead) {
        List<String> answers = new ArrayList<>();
        for (int what = 0; what < many; what++) {
            Object[] arguments = Arrays.copyOf(ahead, ahead.length + 1);
            arguments[ahead.length] = what;
            answers.add(String.valueOf(Face.call(x, name, arguments)));
        }
        return String.join(" ", answers);
    }

    // ---- the agent

    private static void ticks() {
        Doc.promise(2, "- `many`: how many");
        for (int many : new int[] {1, 2, 3}) {
            int then = 4 + many;
            deed(then, just("ofAgent(0)=" + then, "ofAgent(2)=" + then, "1.3.0=t" + then, "ofManager(0, 4)=" + then, "ofManager(1, 4)=" + then,
                    "the DRAFT under way=6 0 7 1 " + then + " 0 -1 0: 0 bulk 6 1 3" + BINDINGS), "tick", many);
        }
        // The INFORM 1001 was SENT at the NOW 3: again at 8.
        deed(8, just("ofAgent(0)=8", "ofAgent(2)=8", "1.3.0=t8", "ofManager(0, 4)=8", "ofManager(1, 4)=8", "rows()=4", "house(0)=11",
                "the DRAFT under way=6 0 7 1 8 0 -1 0: 0 bulk 6 1 3" + BINDINGS,
                row(3, 2, 0, 8, 1001, 1, 8, 0, "0 inform 1001 0 0, 1.3.0=t3, 2.1.3=3, 2.3.3=2", 78)), "tick", 4);
        Check.same("bytes of that row", 78, length(1001, 1, 8, 0, 6, 0, 0, binding("1.3.0", 67, 3), binding("2.1.3", 2, 3), binding("2.3.3", 2, 2)));
    }

    private static void restarts() {
        Doc.promise(3, "The agent begins anew: BOOTS are one more, TIME is 0");
        int bytes = length(1003, 2, 0, 0, 6, 0, 0, binding("1.3.0", 67, 0));
        deed(2, just("ofAgent(1)=2", "ofAgent(2)=0", "1.3.0=t0", "ofAgent(7)=1004", "ofAgent(9)=0", "rows()=5", "house(0)=12",
                row(3, 2, 0, 4, 1003, 2, 0, 0, "0 inform 1003 0 0, 1.3.0=t0", bytes),
                row(4, 2, 1, 4, 1004, 2, 0, 1, "0 trap 1004 0 0, 1.3.0=t0", bytes)), "restart");
    }

    private static void ports() {
        Doc.promise(4, "A PORT's state, from outside. - `port`: the PORT - `isUp`: whether it is up");
        for (int p : new int[] {1, 2, 4}) {
            String bindings = " 0 0, 1.3.0=t4, 2.1." + p + "=" + p + ", 2.3." + p + "=2";
            int bytes = length(1003, 1, 4, 0, 6, 0, 0, binding("1.3.0", 67, 4), binding("2.1.1", 2, p), binding("2.3.1", 2, 2));
            deed(1, just("2.3." + p + "=2", "ofAgent(6)=2", "ofAgent(7)=1004", "rows()=5", "house(0)=12",
                    row(3, 2, 0, 4, 1003, 1, 4, 0, "0 inform 1003" + bindings, bytes),
                    row(4, 2, 1, 4, 1004, 1, 4, 1, "0 trap 1004" + bindings, bytes)), "port", p, false);
            deed(0, just(), "port", p, true);
        }
        deed(0, just(), "port", 3, false);
        Agenttree x = new Agenttree();
        for (int p = 1; p <= 4; p++) {
            Check.same("down", "1 2", x.port(p, false) + " " + Talk.value(x, 0, "2.3." + p));
            Check.same("down already", "0 2", x.port(p, false) + " " + Talk.value(x, 0, "2.3." + p));
            Check.same("up", "1 1", x.port(p, true) + " " + Talk.value(x, 0, "2.3." + p));
        }
    }

    private static void traffic() {
        Doc.promise(5, "Something comes in and goes out at a PORT. - `port`: the PORT - `in`: how much comes in - `out`: how much goes out");
        for (int p : new int[] {1, 3, 4}) {
            deed(7, just("2.4." + p + "=c7", "2.5." + p + "=c65535"), "traffic", p, 7, 65535);
            deed(65535, just("2.4." + p + "=c65535"), "traffic", p, 65535, 0);
        }
        deed(65535, just("2.5.2=c40001"), "traffic", 2, 0, 1);
        deed(0, just("2.4.2=c0", "2.5.2=c0"), "traffic", 2, 1, 25536);
        deed(0, just(), "traffic", 1, 0, 0);
    }

    private static void notes() {
        Doc.promise(6, "A NOTE comes (awake, with an empty text and 0), or goes, from outside. - `context`: the CONTEXT - `i`: i - `j`: j "
                + "- `isThere`: whether it is there then");
        for (int n = 0; n < 24; n++) {
            int context = n / 12;
            int i = n % 12 / 4 + 1;
            int j = n % 4 + 1;
            String at = i + "." + j;
            String of = context == 0 ? "=" : " of 1=";
            boolean isThere = n == 1 || n == 23;
            String sign = isThere ? "-" : "+";
            String[] changes = just("3.1." + at + of + (isThere ? "" : "''"), "3.2." + at + of + (isThere ? "" : "0"),
                    "3.3." + at + of + (isThere ? "" : "1"), "ofAgent(" + (4 + context) + ")=" + ((context == 0 ? 34 : 5) + (isThere ? -3 : 3)),
                    "walk(0, " + context + ")=" + sign + "3.1." + at + " " + sign + "3.2." + at + " " + sign + "3.3." + at);
            deed(1, changes, "note", context, i, j, !isThere);
            deed(0, just(), "note", context, i, j, isThere);
        }
        Agenttree x = new Agenttree();
        Talk.seeAll(x);
        x.note(0, 2, 2, true);
        Talk.learn(x, 0);
        Talk.ask(x, 0, Talk.SET, 0, 0, "3.1.2.2='abc'", "3.2.2.2=-5", "3.3.2.2=2");
        Check.same("there already", 0, x.note(0, 2, 2, true));
        Check.same("it does not come", "'abc' -5 2", note(x));
        Check.same("it goes", "1  ", x.note(0, 2, 2, false) + note(x));
        Check.same("gone already", "0  ", x.note(0, 2, 2, false) + note(x));
        Check.same("it comes", "1'' 0 1", x.note(0, 2, 2, true) + note(x));
    }

    private static String note(Agenttree x) {
        return Talk.value(x, 0, "3.1.2.2") + " " + Talk.value(x, 0, "3.2.2.2") + " " + Talk.value(x, 0, "3.3.2.2");
    }

    private static void most() {
        Doc.promise(7, "MOST becomes another one. - `bytes`: MOST Returns that before.");
        for (int bytes : new int[] {100, 101, 254}) {
            deed(255, just("ofAgent(3)=" + bytes), "most", bytes);
        }
        deed(255, just(), "most", 255);
        Agenttree x = new Agenttree();
        Check.same("that before", "255 100 177 177", x.most(100) + " " + x.most(177) + " " + x.most(177) + " " + x.most(255));
    }

    private static void whatOfAgentTells() {
        Doc.promise(8, "- `what`: 0 NOW, 1 BOOTS, 2 TIME, 3 MOST, 4 how many OBJECTS of the CONTEXT 0 are there, 5 of the CONTEXT 1, 6 INFORMS that are "
                + "OPEN, 7 the number", "8 how many rows of the LEVEL 2 the agent SENT, 9");
        Agenttree x = new Agenttree();
        Talk.seeAll(x);
        x.tick(2);
        x.restart();
        x.restart();
        x.tick(7);
        x.most(111);
        x.note(0, 1, 1, true);
        x.note(1, 1, 1, true);
        x.note(1, 1, 2, true);
        Check.same("without NOTICES", "9 3 7 111 34 8 0 1000 0 0", all(x, "ofAgent", 10));
        Talk.learn(x, 0);
        x.target(0, true, 0, 0, 0, true);
        x.target(1, true, 0, 0, 2, false);
        x.restart();
        x.port(1, false);
        x.passAll(40);
        x.port(2, false);
        x.port(3, false);
        x.tick(1);
        x.draft(0, 2, 0, 0, 0);
        x.send(0);
        x.send(0);
        x.send(0);
        x.passAll(40);
        Check.same("INFORMS that were answered are OPEN no more", "10 4 1 111 34 8 0 1008 7 3", all(x, "ofAgent", 10));
        x.port(4, false);
        Check.same("one is", "10 4 1 111 34 8 1 1010 8 3", all(x, "ofAgent", 10));
    }

    private static void valuesAndWalks() {
        Doc.promise(9, "- `context`: a CONTEXT");
        Doc.promise(10, "- `user`: a USER - `context`: a CONTEXT");
        Agenttree x = base();
        Check.same("the value in the CONTEXT 0", "5", Talk.value(x, 0, "1.2.0"));
        Check.same("in the CONTEXT 1", "0", Talk.value(x, 1, "1.2.0"));
        String[] columns = {"1.1", "1.2", "3.1", "3.2"};
        for (int view = 0; view < 4; view++) {
            x.name(1, -1, -1, -1);
            x.unfamily(view, 0);
            x.name(3, -1, -1, -1);
            x.unfamily(view, 0);
            Talk.hold(x, columns[view]);
            x.family(view, 0, true);
        }
        Talk.hold(x, "2");
        x.unfamily(0, 0);
        Talk.hold(x, "4");
        x.unfamily(0, 0);
        String[] of0 = {"1.1.0", "1.2.0", "3.1.1.2", "3.2.1.2", ""};
        String[] of1 = {"1.1.0", "1.2.0", "3.1.3.4", "3.2.3.4", ""};
        for (int shift = 0; shift < 5; shift++) {
            for (int user = 0; user < 5; user++) {
                x.access(user, 0, 0, view(user + shift), 3 - user % 4, user % 4);
                x.access(user, 1, 0, view(user * 2 + shift), user % 4, 3 - user % 4);
            }
            for (int user = 0; user < 5; user++) {
                Check.same("walk(" + user + ", 0)", of0[(user + shift) % 5], x.walk(user, 0));
                Check.same("walk(" + user + ", 1)", of1[(user * 2 + shift) % 5], x.walk(user, 1));
            }
        }
    }

    /** The VIEWS 0 to 3, and NONE, as they are counted on and on. */
    private static int view(int number) {
        return number % 5 == 4 ? -1 : number % 5;
    }

    // ---- what is in hand

    private static void hand() {
        String numbers = "- `a`: a number, or NONE (likewise the others) - `b`: a number - `c`: a number - `d`: a number";
        String bytes = "- `a`: a byte, or NONE (likewise the others) - `b`: a byte - `c`: a byte - `d`: a byte - `e`: a byte";
        Doc.promise(11, numbers);
        Doc.promise(12, numbers);
        Doc.promise(17, bytes);
        Doc.promise(14, "The NAME in HAND is laid on the SHELF as well (in the place of that which lies there).");
        deed(4, just("hand()=4.3.2.1"), "name", 4, 3, 2, 1);
        deed(2, just("hand()=0.999"), "name", -1, 0, -1, 999);
        deed(7, just("hand()=2.3.1.9.8.7.6"), "longer", 9, 8, 7, 6);
        deed(5, just("hand()=2.3.1.999.0"), "longer", -1, 999, 0, -1);
        deed(3, just(), "longer", -1, -1, -1, -1);
        deed(3, just("the OCTETS and the SHELF=0 get 0 0 0, 0='abc', 0=2.3.1"), "shelve");
        deed(1, just(), "compare");
        deed(true, just(), "begins");
        deed(8, just("the OCTETS and the SHELF=0 get 0 0 0, 0='abcdefgh', 0=2.3"), "letters", 100, 101, 102, 103, 104);
        deed(5, just("the OCTETS and the SHELF=0 get 0 0 0, 0='abc~ ', 0=2.3"), "letters", -1, 126, -1, 32, -1);
        deed(3, just("the OCTETS and the SHELF=0 get 0 0 0, 0='', 0=2.3"), "noLetters");
    }

    // ---- users, views

    private static void users() {
        Doc.promise(19, "What the agent knows of a USER becomes another thing. - `user`: the USER - `isKnown`: whether it is known - `key`: its KEY "
                + "- `highest`: its HIGHEST level");
        for (int user = 0; user <= 4; user++) {
            int was = user < 2 ? 1 : 0;
            String of = "ofUser(" + user + ", ";
            deed(was, just(of + "0)=" + (1 - was), of + "1)=9999", of + "2)=0"), "user", user, was == 0, 9999, 0);
            deed(was, just(of + "0)=" + (1 - was)), "user", user, was == 0, 1000 + user, 2);
            deed(was, just(of + "1)=0"), "user", user, was == 1, 0, 2);
            deed(was, just(of + "2)=1"), "user", user, was == 1, 1000 + user, 1);
            deed(was, just(), "user", user, was == 1, 1000 + user, 2);
        }
    }

    private static void accesses() {
        Doc.promise(20, "What a USER may do in a CONTEXT becomes another thing. - `user`: the USER - `context`: the CONTEXT - `least`: its LEAST level "
                + "there - `read`: the READ VIEW, or NONE - `write`: the WRITE VIEW, or NONE - `notes`: the NOTE VIEW, or NONE");
        for (int user = 1; user <= 4; user++) {
            String of = "ofUser(" + user + ", ";
            deed(0, just(of + "3)=1", of + "4)=3", of + "5)=2", of + "6)=-1"), "access", user, 0, 1, 3, 2, -1);
            deed(0, just(of + "7)=2", of + "8)=1", of + "9)=2", of + "10)=3"), "access", user, 1, 2, 1, 2, 3);
            deed(0, just(of + "3)=2"), "access", user, 0, 2, -1, 0, 0);
            deed(0, just(of + "5)=-1"), "access", user, 0, 0, -1, -1, 0);
            deed(0, just(of + "6)=1"), "access", user, 0, 0, -1, 0, 1);
            deed(0, just(of + "8)=3"), "access", user, 1, 0, 3, -1, -1);
            deed(0, just(), "access", user, 1, 0, -1, -1, -1);
        }
        deed(0, just("ofUser(0, 8)=-1", "walk(0, 1)=-1.1.0 -1.2.0 -3.1.3.4 -3.2.3.4 -3.3.3.4"), "access", 0, 1, 0, -1, 0, 0);
        deed(0, just("ofUser(2, 8)=0", "walk(2, 1)=+1.1.0 +1.2.0 +3.1.3.4 +3.2.3.4 +3.3.3.4"), "access", 2, 1, 0, 0, -1, -1);
        Agenttree x = new Agenttree();
        Check.same("LEAST before", "0 2 1", x.access(3, 1, 2, 0, 0, 0) + " " + x.access(3, 1, 1, 0, 0, 0) + " " + x.access(3, 1, 0, 0, 0, 0));
    }

    private static void whatOfUserTells() {
        Doc.promise(21, "- `user`: a USER - `what`: 0 1 if it is known, otherwise 0, 1 KEY, 2 HIGHEST; of the CONTEXT 0: 3 LEAST, 4 READ, 5 WRITE, "
                + "6 NOTE VIEW; 7 to 10 likewise of the CONTEXT 1");
        for (int user = 0; user <= 4; user++) {
            Agenttree x = new Agenttree();
            x.user(user, true, 77, 2);
            x.access(user, 0, 1, 3, 0, -1);
            x.access(user, 1, 2, -1, 1, 3);
            Check.same("of the USER " + user, "1 77 2 1 3 0 -1 2 -1 1 3", all(x, "ofUser", 11, user));
            x.user(user, false, 0, 0);
            Check.same("of the USER " + user, "0 0 0 1 3 0 -1 2 -1 1 3", all(x, "ofUser", 11, user));
        }
    }

    private static void families() {
        Doc.promise(22, "A VIEW gets a FAMILY: the NAME in HAND and a MASK (one that it has with both becomes IN or OUT by that). - `view`: the VIEW "
                + "- `mask`: the MASK - `isIn`: whether it is IN");
        Doc.promise(23, "A FAMILY goes: that of the NAME in HAND and a MASK. - `view`: the VIEW - `mask`: the MASK");
        deed(5, just("families(0)=1/0+, 2/0+, 2.3.1/0-, 3/0+, 4/0+", "walk(0, 0)=-2.3.1"), "family", 0, 0, false);
        deed(5, just("families(0)=1/0+, 2/0+, 2.3.1/4-, 3/0+, 4/0+", "walk(0, 0)=-2.3.1 -2.3.2 -2.3.3 -2.3.4"), "family", 0, 4, false);
        deed(5, just("families(0)=1/0+, 2/0+, 2.3.1/255+, 3/0+, 4/0+"), "family", 0, 255, true);
        for (int view = 1; view <= 3; view++) {
            deed(1, just("families(" + view + ")=2.3.1/8+"), "family", view, 8, true);
            Agenttree x = base();
            x.family(view, 8, true);
            Agenttree y = base();
            y.family(view, 8, true);
            Check.same("OUT by that", 1, y.family(view, 8, false));
            Check.same("nothing else", List.of("families(" + view + ")=2.3.1/8-"), Shown.changes(x, y));
            Agenttree z = base();
            z.family(view, 8, true);
            z.family(view, 9, true);
            Check.same("it goes", 1, z.unfamily(view, 8));
            Check.same("that alone", "2.3.1/9+", z.families(view));
            Check.same("that goes, too", 0, z.unfamily(view, 9));
            Check.same("nothing else", List.of(), Shown.changes(base(), z));
        }
        Agenttree w = base();
        Talk.hold(w, "3");
        w.family(0, 0, false);
        Check.same("one that it has", List.of("families(0)=1/0+, 2/0+, 3/0-, 4/0+", "hand()=3", "walk(0, 0)=-3.1.1.2 -3.2.1.2 -3.3.1.2",
                "walk(0, 1)=-3.1.3.4 -3.2.3.4 -3.3.3.4"), Shown.changes(base(), w));
        Agenttree v = base();
        Talk.hold(v, "3");
        v.unfamily(0, 0);
        Check.same("one that goes", List.of("families(0)=1/0+, 2/0+, 4/0+", "hand()=3", "walk(0, 0)=-3.1.1.2 -3.2.1.2 -3.3.1.2",
                "walk(0, 1)=-3.1.3.4 -3.2.3.4 -3.3.3.4"), Shown.changes(base(), v));
        deed(-9, just("house(3)=1"), "unfamily", 0, 0);
    }

    private static void viewsByTheirNumbers() {
        Doc.promise(24, "- `view`: a VIEW");
        Doc.promise(25, "- `view`: a VIEW");
        Agenttree x = new Agenttree();
        for (int view = 0; view < 4; view++) {
            x.name(6, view, -1, -1);
            x.family(view, view, true);
        }
        Check.same("families()", "1/0+, 6.0/0+ | 6.1/1+ | 6.2/2+ | 6.3/3+",
                x.families(0) + " | " + x.families(1) + " | " + x.families(2) + " | " + x.families(3));
        // The VIEW 1 takes any first number, the VIEW 2 any second one, the VIEW 3 any two.
        String[][] names = {{"6.0.9", "true false true true"}, {"6.1", "false true true true"}, {"9.1", "false true false true"},
            {"6.2", "false false true true"}, {"9.9", "false false false true"}, {"5", "false false false false"},
            {"1", "true false false false"}};
        for (String[] name : names) {
            Talk.hold(x, name[0]);
            Check.same("has() of " + name[0], name[1], x.has(0) + " " + x.has(1) + " " + x.has(2) + " " + x.has(3));
        }
    }

    // ---- targets

    private static void targets() {
        Doc.promise(26, "A TARGET becomes another one. - `target`: the TARGET - `isOn`: whether it is on - `manager`: the MANAGER - `user`: the USER "
                + "- `level`: the LEVEL - `isInform`: whether by INFORM, otherwise by TRAP");
        for (int target : new int[] {1, 3}) {
            String of = "ofTarget(" + target + ", ";
            deed(0, just(of + "0)=1", of + "1)=1", of + "2)=4", of + "3)=2", of + "4)=1"), "target", target, true, 1, 4, 2, true);
            deed(0, just(of + "0)=1"), "target", target, true, 0, 0, 0, false);
            deed(0, just(of + "1)=1"), "target", target, false, 1, 0, 0, false);
            deed(0, just(of + "2)=1"), "target", target, false, 0, 1, 0, false);
            deed(0, just(of + "3)=1"), "target", target, false, 0, 0, 1, false);
            deed(0, just(of + "4)=1"), "target", target, false, 0, 0, 0, true);
            deed(0, just(), "target", target, false, 0, 0, 0, false);
        }
        deed(1, just("ofTarget(0, 0)=0", "ofTarget(0, 4)=0"), "target", 0, false, 0, 0, 0, false);
        deed(1, just("ofTarget(2, 1)=0", "ofTarget(2, 2)=3"), "target", 2, true, 0, 3, 0, false);
    }

    private static void whatOfTargetTells() {
        Doc.promise(27, "- `target`: a TARGET - `what`: 0 1 if it is on, otherwise 0, 1 its MANAGER, 2 its USER, 3 its LEVEL, 4 1 if by INFORM, "
                + "otherwise 0");
        for (int target = 0; target < 4; target++) {
            Agenttree x = new Agenttree();
            x.target(target, true, 0, 3, 2, false);
            Check.same("of the TARGET " + target, "1 0 3 2 0", all(x, "ofTarget", 5, target));
            x.target(target, false, 1, 4, 0, true);
            Check.same("of the TARGET " + target, "0 1 4 0 1", all(x, "ofTarget", 5, target));
            for (int other = 0; other < 4; other++) {
                Check.is("of others", other == target || all(x, "ofTarget", 5, other).equals("0 0 0 0 0"));
            }
        }
    }

    // ---- managers

    private static void speaking() {
        Doc.promise(28, "A MANAGER speaks as another USER, with another KEY. - `manager`: the MANAGER - `user`: the USER - `key`: the KEY");
        for (int user = 1; user <= 4; user++) {
            deed(0, just("ofManager(0, 0)=" + user, "ofManager(0, 1)=9999", "the DRAFT under way=6 0 7 1 4 " + user + " -1 0: 0 bulk 6 1 3" + BINDINGS),
                    "speak", 0, user, 9999);
        }
        deed(1, just("ofManager(1, 0)=0", "ofManager(1, 1)=0"), "speak", 1, 0, 0);
        deed(1, just("ofManager(1, 1)=7"), "speak", 1, 1, 7);
        deed(0, just(), "speak", 0, 0, 1000);
    }

    private static void forgetting() {
        Doc.promise(29, "- `manager`: the MANAGER");
        deed(1, just("ofManager(0, 2)=0", "ofManager(0, 3)=0", "ofManager(0, 4)=0", "the DRAFT under way=6 0 0 0 0 0 -1 0: 0 bulk 6 1 3" + BINDINGS),
                "forget", 0);
        deed(1, just("ofManager(1, 2)=0", "ofManager(1, 3)=0", "ofManager(1, 4)=0"), "forget", 1);
    }

    private static void drafts() {
        Doc.promise(30, "A DRAFT begins, without BINDINGS (there is one, in the place of that before). - `kind`: its KIND - `level`: its LEVEL "
                + "- `context`: its CONTEXT - `few`: FEW; not looked at but of a BULK (it is 0 then; likewise the next one) - `many`: MANY");
        String[] words = {"get", "next", "", "set", "bulk"};
        for (int kind : new int[] {0, 1, 3, 4}) {
            int[][] fewAndMany = {{0, 0}, {-9, 99}, {99, -9}, {-2147483648, 2147483647}};
            for (int[] one : fewAndMany) {
                if (kind != 4 || one[0] >= -9) {
                    String behind = kind == 4 ? " " + one[0] + " " + one[1] : " 0 0";
                    deed(2, just("draftText()=9 " + words[kind] + " 0" + behind,
                            "the DRAFT under way=6 0 7 1 4 0 -1 0: 9 " + words[kind] + " 6" + behind), "draft", kind, 0, 9, one[0], one[1]);
                }
            }
            int[] scope = Rows.scope(1, Rows.pdu(kind, 6, 0, 0));
            int[] row = Rows.sealed(6, 1, 7, 1, 4, 0, 1000, 0, scope);
            int sum = Rows.sum(row, 1000, row.length - scope.length - 5);
            deed(2, just("draftText()=1 " + words[kind] + " 0 0 0", "the DRAFT under way=6 1 7 1 4 0 " + sum + " 0: 1 " + words[kind] + " 6 0 0"), "draft",
                    kind, 1, 1, 0, 0);
            Agenttree x = base();
            x.draft(kind, 2, 1, 0, 0);
            x.send(0);
            Check.is("of the LEVEL 2", x.rowText(3).matches("6 2 7 1 4 0 \\d+ 0: " + scope.length));
        }
    }

    private static void bindings() {
        Doc.promise(31, "The DRAFT gets a BINDING: the NAME in HAND, and a VALUE. - `what`: its VALUE: 0 NULL, 1 an INTEGER, 2 the OCTETS in HAND, "
                + "3 a COUNTER, 4 TICKS, 5 the NAME on the SHELF - `number`: the number of 1, 3 and 4 (otherwise not looked at)");
        int[] numbers = {-2147483648, -1, 0, 65535, 65536, 2147483647};
        for (int number : numbers) {
            bound("null", 0, number);
            bound(String.valueOf(number), 1, number);
            bound("'abc'", 2, number);
            if (number >= 0 && number <= 65535) {
                bound("c" + number, 3, number);
            }
            if (number >= 0) {
                bound("t" + number, 4, number);
            }
            bound("2.3", 5, number);
        }
    }

    private static void bound(String value, int what, int number) {
        String then = " 1 3" + BINDINGS + ", 2.3.1=" + value;
        deed(3, just("draftText()=0 bulk 0" + then, "the DRAFT under way=6 0 7 1 4 0 -1 0: 0 bulk 6" + then), "bind", what, number);
    }

    private static void sending() {
        Doc.promise(33, "A MANAGER SENDS the DRAFT (which stays). - `manager`: the MANAGER");
        int bytes = length(6, 1, 4, 0, 4, 1, 3, Rows.binding("1", Rows.empty(5)), Rows.binding("2.3", Rows.empty(5)));
        deed(6, just("ofManager(0, 5)=4", "ofManager(0, 6)=2", "house(0)=11", "rows()=4", row(3, 0, 2, 4, 6, 1, 4, 0, "0 bulk 6 1 3" + BINDINGS, bytes),
                "the DRAFT under way=8 0 7 1 4 0 -1 0: 0 bulk 8 1 3" + BINDINGS), "send", 0);
        deed(5, just("ofManager(1, 5)=3", "ofManager(1, 6)=2", "house(0)=11", "rows()=4",
                row(3, 1, 2, 4, 5, 1, 4, 1, "0 bulk 5 1 3" + BINDINGS, bytes)), "send", 1);
    }

    private static void whatOfManagerTells() {
        Doc.promise(35, "- `manager`: a MANAGER - `what`: 0 its USER, 1 its KEY, 2 the ENGINE, 3 the BOOTS that it KNOWS, 4 the TIME that it would tell, "
                + "5 how many DRAFTS it SENT, 6 how many of them are OPEN, 7 how many ANSWERS it got, 8 how many NOTICES were told to it, 9 how many "
                + "rows it dropped, 10 how many rows of the LEVEL 2 it SENT, 11 the ID of its last ANSWER (NONE without)");
        for (int m = 0; m < 2; m++) {
            Agenttree x = new Agenttree();
            Talk.seeAll(x);
            for (int i = 0; i < 4; i++) {
                x.restart();
            }
            x.user(4, true, 44, 2);
            x.speak(m, 4, 44);
            x.tick(9);
            Check.same("it KNOWS nothing", "4 44 0 0 9 0 0 0 0 0 0 -1", all(x, "ofManager", 12, m));
            Talk.learn(x, m);
            x.tick(40);
            for (int i = 0; i < 4; i++) {
                x.draft(0, i < 2 ? 0 : 2, 0, 0, 0);
                x.send(m);
            }
            x.twice(0);
            x.twice(0);
            x.passAll(4);
            x.lose(0);
            Check.same("DRAFTS", "4 44 7 5 49 5 4 1 0 0 2 " + m, all(x, "ofManager", 12, m));
            x.passAll(40);
            x.target(3, true, m, 4, 0, false);
            x.port(1, false);
            x.twice(0);
            x.twice(0);
            x.twice(0);
            x.port(1, true);
            x.passAll(40);
            x.tick(1);
            Check.same("ANSWERS and NOTICES", "4 44 7 5 50 5 0 5 2 4 2 " + (8 + m), all(x, "ofManager", 12, m));
            Check.same("of the other one", (1 - m) + " " + (1001 - m) + " 0 0 50 0 0 0 0 0 0 -1", all(x, "ofManager", 12, 1 - m));
        }
    }

    private static void answersAndNotices() {
        Doc.promise(34, "- `manager`: a MANAGER");
        Doc.promise(36, "- `manager`: a MANAGER - `k`: the number of a NOTICE that was told to it, by their sequence, from 0 on");
        Agenttree x = base();
        Check.same("of the MANAGER 0", "0 response 2 0 0, 1.2.0=5, 1.1.0='abc'", x.answer(0));
        Check.same("of the MANAGER 1", "0 report 0 0 0, 4.3.0=c2", x.answer(1));
        x.target(0, true, 1, 1, 0, false);
        x.target(2, true, 0, 0, 0, false);
        x.restart();
        x.restart();
        x.passAll(40);
        x.tick(1);
        x.restart();
        x.passAll(40);
        String[][] due = {{"1 0 inform 1001 0 0, 1.3.0=t3, 2.1.3=3, 2.3.3=2", "2 0 trap 1004 0 0, 1.3.0=t0", "3 0 trap 1006 0 0, 1.3.0=t0",
            "4 0 trap 1008 0 0, 1.3.0=t0"}, {"1 0 trap 1002 0 0, 1.3.0=t3, 2.1.3=3, 2.3.3=2", "2 0 trap 1003 0 0, 1.3.0=t0",
                "3 0 trap 1005 0 0, 1.3.0=t0", "4 0 trap 1007 0 0, 1.3.0=t0"}};
        for (int m = 0; m < 2; m++) {
            for (int k = 0; k < 4; k++) {
                Check.same("told(" + m + ", " + k + ")", due[m][k], x.told(m, k));
            }
            int manager = m;
            Check.badPlace(x, "told(" + m + ", 4)", () -> x.told(manager, 4));
        }
    }

    // ---- the line

    private static void rowsByTheirNumbers() {
        Doc.promise(38, "- `k`: a row under way, from the first one (0) on - `what`: 0 from whom, 1 to whom (0 and 1 the MANAGERS, 2 the agent), "
                + "2 how many bytes, 3 its FAULT (NONE without), 4");
        Doc.promise(39, "- `k`: a row under way");
        Doc.promise(40, "- `k`: a row under way - `place`: a place, from 0 on");
        Agenttree x = base();
        int[] bindings = Rows.join(Rows.binding("1", Rows.empty(5)), Rows.binding("2.3", Rows.empty(5)));
        int[][] rows = {Rows.open(1001, 7, 1, 3, 0, Rows.scope(0, Rows.pdu(6, 1001, 0, 0, binding("1.3.0", 67, 3), binding("2.1.3", 2, 3),
                binding("2.3.3", 2, 2)))), Rows.open(3, 7, 1, 3, 1, Rows.scope(0, Rows.pdu(4, 3, 1, 3, bindings))),
            Rows.open(4, 7, 1, 3, 0, Rows.scope(0, Rows.pdu(4, 4, 1, 3, bindings)))};
        rows[2][0] = 49;
        Check.same("the row 0", "2 0 " + rows[0].length + " -1 3", all(x, "ofRow", 5, 0));
        Check.same("the row 1", "1 2 " + rows[1].length + " -1 3", all(x, "ofRow", 5, 1));
        Check.same("the row 2", "0 2 " + rows[2].length + " 0 3", all(x, "ofRow", 5, 2));
        for (int k = 0; k < 3; k++) {
            for (int place = 0; place < rows[k].length; place++) {
                Check.same("byteOf(" + k + ", " + place + ")", rows[k][place], x.byteOf(k, place));
            }
        }
        x.spoil(2, 0, 48);
        Check.same("the row 2, with no FAULT", "4 0 7 1 3 0 -1 0: 0 bulk 4 1 3" + BINDINGS, x.rowText(2));
        x.spoil(2, rows[2].length - 1, 1);
        Check.same("with one at its last part", "0 2 " + rows[2].length + " " + (rows[2].length - 2) + " 3", all(x, "ofRow", 5, 2));
        x.port(1, false);
        x.tick(3);
        x.port(1, true);
        Check.same("one to the MANAGER 1", "2 1", x.ofRow(4, 0) + " " + x.ofRow(4, 1));
        Check.same("at which NOW", "4 7 7", x.ofRow(4, 4) + " " + x.ofRow(5, 4) + " " + x.ofRow(6, 4));
    }

    private static void linesOfRows() {
        Doc.promise(41, "- `k`: the row");
        Doc.promise(42, "- `many`: how many at most");
        Doc.promise(43, "- `k`: the row");
        Doc.promise(44, "- `k`: the row");
        Doc.promise(45, "- `k`: the row - `place`: its place, from 0 on - `with`: the byte");
        String one = "3 0 7 1 3 1 -1 0: 0 bulk 3 1 3" + BINDINGS;
        int bytes = length(3, 1, 3, 1, 4, 1, 3, Rows.binding("1", Rows.empty(5)), Rows.binding("2.3", Rows.empty(5)));
        deed(2, just("rows()=2", "row 2=none", "house(1)=1"), "lose", 2);
        deed(2, just("rows()=2", "row 1=0 2 " + bytes + " 0 3 / fault 0", "row 2=none", "house(1)=1"), "lose", 1);
        deed(4, just("rows()=4", "row 3=0 2 " + bytes + " 0 4 / fault 0"), "twice", 2);
        deed(4, just("rows()=4", row(3, 1, 2, 4, 3, 1, 3, 1, one.substring(one.indexOf(": ") + 2), bytes)), "twice", 1);
        deed(2, just("rows()=2", "row 2=none", "house(2)=8", "4.1.0=c4", "4.2.0=c1"), "pass", 2);
        deed(48, just("row 1=1 2 " + bytes + " 0 3 / fault 0"), "spoil", 1, 0, 255);
        deed(0, just("row 1=1 2 " + bytes + " " + (bytes - 2) + " 3 / fault " + (bytes - 2)), "spoil", 1, bytes - 1, 1);
        deed(1, just(row(1, 1, 2, 3, 3, 1, 3, 1, "0 bulk 3 1 3, 0=null, 2.3=null", bytes)), "spoil", 1, bytes - 11, 0);
        deed(1, just("row 1=1 2 " + bytes + " " + (bytes - 13) + " 3 / fault " + (bytes - 13)), "spoil", 1, bytes - 12, 0);
        deed(49, just(row(2, 0, 2, 3, 4, 1, 3, 0, "0 bulk 4 1 3" + BINDINGS, bytes)), "spoil", 2, 0, 48);
        deed(49, just(), "spoil", 2, 0, 49);
        deed(1, just("row 0=" + row(1, 1, 2, 3, 3, 1, 3, 1, "0 bulk 3 1 3" + BINDINGS, bytes).substring(6),
                "row 1=0 2 " + bytes + " 0 3 / fault 0",
                row(2, 0, 2, 4, 1001, 1, 3, 0, "0 response 1001 0 0, 1.3.0=t3, 2.1.3=3, 2.3.3=2", 78), "house(0)=11", "house(2)=8",
                "ofManager(0, 8)=1", "told(0, 0)=1 0 inform 1001 0 0, 1.3.0=t3, 2.1.3=3, 2.3.3=2"), "passAll", 1);
    }

    private static void records() {
        Doc.promise(46, "- `k`: the row - `slot`: where (in the place of that which is there)");
        Doc.promise(47, "- `slot`: where it is recorded");
        int bytes = length(3, 1, 3, 1, 4, 1, 3, Rows.binding("1", Rows.empty(5)), Rows.binding("2.3", Rows.empty(5)));
        String one = "1001 0 7 1 3 0 -1 0: 0 inform 1001 0 0, 1.3.0=t3, 2.1.3=3, 2.3.3=2";
        for (int slot = 0; slot <= 3; slot++) {
            deed(78, just("the record " + slot + "=2 to 0, " + one), "record", 0, slot);
            deed(bytes, just("the record " + slot + "=0 to 2, fault 0"), "record", 2, slot);
            if (slot != 2) {
                deed(-9, just("house(3)=1"), "replay", slot);
            }
        }
        deed(bytes, just(), "record", 1, 2);
        deed(4, just("rows()=4", row(3, 1, 2, 4, 3, 1, 3, 1, "0 bulk 3 1 3" + BINDINGS, bytes)), "replay", 2);
    }

    // ---- the bench

    private static void bench() {
        Doc.promise(48, "- `a`: a byte, or NONE (likewise the others) - `b`: a byte - `c`: a byte - `d`: a byte - `e`: a byte");
        Doc.promise(49, "- `many`: how many (all, if there are not so many)");
        Doc.promise(50, "- `k`: that row");
        // 48 3 2 1 4 lies there: an INTEGER 4 where a 3 has to be.
        Check.same("at first", "2 fault 2", base().fault() + " " + base().read());
        deed(4, just("fault()=0", "read()=fault 0"), "cut", 1);
        deed(0, just("fault()=0", "read()=fault 0"), "cut", 255);
        deed(0, just("fault()=0", "read()=fault 0"), "cut", 5);
        deed(10, just(), "lay", 1, 2, 3, 4, 5);
        deed(7, just(), "lay", -1, 255, -1, 0, -1);
        int bytes = length(3, 1, 3, 1, 4, 1, 3, Rows.binding("1", Rows.empty(5)), Rows.binding("2.3", Rows.empty(5)));
        deed(78, just("fault()=-1", "read()=1001 0 7 1 3 0 -1 0: 0 inform 1001 0 0, 1.3.0=t3, 2.1.3=3, 2.3.3=2"), "fetch", 0);
        deed(bytes, just("fault()=-1", "read()=3 0 7 1 3 1 -1 0: 0 bulk 3 1 3" + BINDINGS), "fetch", 1);
        deed(bytes, just("fault()=0", "read()=fault 0"), "fetch", 2);
    }

    private static void sumsAndCiphers() {
        Doc.promise(53, "- `key`: a KEY");
        Doc.promise(54, "All bytes on the BENCH are ciphered. - `key`: the KEY - `boots`: BOOTS - `salt`: SALT");
        int[] row = {48, 3, 2, 1, 4};
        int[] keys = {0, 1, 255, 256, 9999};
        for (int key : keys) {
            deed(Rows.sum(row, key, -1), just(), "sum", key);
            for (int[] other : new int[][] {{0, 0}, {999, 255}, {1, 128}}) {
                int[] ciphered = Rows.ciphered(row, key, other[0], other[1]);
                Agenttree x = base();
                Check.same("the sum of all its bytes", Arrays.stream(ciphered).sum(), x.cipher(key, other[0], other[1]));
                x.inject(0);
                for (int place = 0; place < 5; place++) {
                    Check.same("a byte", ciphered[place], x.byteOf(3, place));
                }
                Check.same("undone by the same", 58, x.cipher(key, other[0], other[1]));
                x.lose(3);
                Check.same("nothing else", List.of("house(1)=1"), Shown.changes(base(), x));
            }
        }
    }

    private static void injecting() {
        Doc.promise(55, "- `manager`: the MANAGER");
        for (int manager = 0; manager < 2; manager++) {
            deed(4, just("rows()=4", "row 3=" + manager + " 2 5 2 4 / fault 2"), "inject", manager);
        }
    }

    // ---- the whole

    private static void whatHouseTells() {
        Doc.promise(56, "- `what`: 0 rows that were SENT");
        deed(10, just(), "house", 0);
        deed(0, just(), "house", 1);
        deed(7, just(), "house", 2);
        deed(0, just(), "house", 3);
        deed(1, just(), "house", 4);
        deed(2, just("house(4)=2"), "knock");
    }

    /** They answer, and change nothing. */
    private static void callsThatOnlyTell() {
        Agenttree x = base();
        deed(x.hand(), just(), "hand");
        deed("1", just(), "value", 0);
        deed("", just(), "value", 1);
        deed(x.walk(0, 1), just(), "walk", 0, 1);
        deed(0, just(), "ofAgent", 8);
        deed(1000, just(), "ofUser", 0, 1);
        deed(x.families(0), just(), "families", 0);
        deed(true, just(), "has", 0);
        deed(1, just(), "ofTarget", 2, 1);
        deed(x.draftText(), just(), "draftText");
        deed(x.answer(1), just(), "answer", 1);
        deed(1, just(), "ofManager", 1, 8);
        deed(x.told(1, 0), just(), "told", 1, 0);
        deed(3, just(), "rows");
        deed(3, just(), "ofRow", 1, 4);
        deed(x.rowText(1), just(), "rowText", 1);
        deed(49, just(), "byteOf", 2, 0);
        deed(2, just(), "fault");
        deed("fault 2", just(), "read");
        deed(true, just(), "isSound");
        deed(x.digest(), just(), "digest");
    }

    private static void theLastCalls() {
        Doc.promise(Doc.WHAT, "An object is used for at most 512 calls after it has been made");
        Agenttree x = new Agenttree();
        for (int n = 1; n <= 512; n++) {
            Check.same("knock() as the call " + n, n, x.knock());
        }
        Agenttree y = new Agenttree();
        int drafts = 0;
        for (int call = 1; call <= 510; call++) {
            if (call % 17 == 0) {
                Check.same("what comes by the call " + call, 32, y.passAll(40));
            } else {
                Check.same("the ID of a DRAFT by the call " + call, 2 * drafts, y.send(0));
                drafts++;
            }
        }
        Check.same("none is under way", 0, y.passAll(1));
        Check.same("the last ANSWER, by the call 512", 958, y.ofManager(0, 11));
    }
}
