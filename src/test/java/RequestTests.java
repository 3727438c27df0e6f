/** Section 5 of the document: what the agent answers (by promises 33, 34 and 41), and MOST (promise 7). */
final class RequestTests {
    private RequestTests() {
    }

    static void run() {
        gets();
        nexts();
        bulks();
        noAccess();
        setsThatAreDone();
        setsThatAreWrong();
        setsOfNotes();
        noteWithAll();
        most();
        mostWithLongSalts();
        silentKinds();
    }

    private static Agenttree open() {
        Agenttree x = new Agenttree();
        Talk.learn(x, 0);
        Talk.seeAll(x);
        return x;
    }

    /** What is behind the SCOPE's five first words. */
    private static String behind(String scope) {
        int at = scope.indexOf(", ");
        return at < 0 ? "" : scope.substring(at + 2);
    }

    /** STATUS and INDEX. */
    private static String status(String scope) {
        String[] words = scope.split("[ ,]");
        return words[3] + " " + words[4];
    }

    private static String get(Agenttree x, int context, String... names) {
        return behind(Talk.ask(x, 0, Talk.GET, 0, context, names));
    }

    private static String next(Agenttree x, int context, String... names) {
        return behind(Talk.ask(x, 0, Talk.NEXT, 0, context, names));
    }

    private static String bulk(Agenttree x, int few, int many, String... names) {
        return behind(Talk.askMany(x, 0, Talk.BULK, 0, 0, few, many, names));
    }

    private static String set(Agenttree x, int context, String... bindings) {
        return status(Talk.ask(x, 0, Talk.SET, 0, context, bindings));
    }

    private static void gets() {
        Agenttree x = new Agenttree();
        Talk.learn(x, 0);
        Check.same("GET", "1.1.0='', 1.1=no instance, 1.1.5=no instance, 1.4.0=no object, 1=no object, 2.1.1=no object",
                get(x, 0, "1.1.0", "1.1", "1.1.5", "1.4.0", "1", "2.1.1"));
        Check.same("GET of nothing", "0 response 4 0 0", Talk.ask(x, 0, Talk.GET, 2, 0));
        Talk.seeAll(x);
        x.tick(3);
        // This row is the fourth that came.
        Check.same("GET of numbers", "1.3.0=t3, 2.1.4=4, 2.6.1=no object, 3.1.1.1=no instance, 4.1.0=c4, 4.9.0=no object, "
                + "2.3.5=no instance, 3.4.1.1=no object",
                get(x, 0, "1.3.0", "2.1.4", "2.6.1", "3.1.1.1", "4.1.0", "4.9.0", "2.3.5", "3.4.1.1"));
        x.access(0, 1, 0, 0, 0, -1);
        x.note(1, 2, 2, true);
        Check.same("GET in the CONTEXT 1", "1.2.0=0, 1.3.0=no object, 2.1.1=no object, 4.1.0=no object, 3.3.2.2=1, "
                + "3.3.2.3=no instance", get(x, 1, "1.2.0", "1.3.0", "2.1.1", "4.1.0", "3.3.2.2", "3.3.2.3"));
        Check.same("GET does not look at the VALUE", "1.2.0=0", get(x, 0, "1.2.0=9"));
        Check.same("GET tells one twice", "1.2.0=0, 1.2.0=0", get(x, 0, "1.2.0", "1.2.0"));
    }

    private static void nexts() {
        Agenttree x = open();
        Check.same("NEXT", "1.1.0='', 1.1.0='', 1.2.0=0, 1.2.0=0, 2.1.1=1, 2.2.1='', 4.1.0=c2, 4.8.0=end",
                next(x, 0, "0", "1.1", "1.1.0", "1.1.999", "1.3.0", "2.1.4", "3", "4.8.0"));
        Check.same("NEXT behind all", "999.999=end, 5=end, 4.8.0.0=end", next(x, 0, "999.999", "5", "4.8.0.0"));
        x.note(0, 2, 1, true);
        x.note(0, 1, 4, true);
        Check.same("NEXT by NOTES", "3.1.1.4='', 3.1.2.1='', 3.2.1.4=0, 3.2.2.1=0, 3.3.2.1=1",
                next(x, 0, "2.5.4", "3.1.1.4", "3.1.2.1", "3.2.1.4", "3.3.1.4"));
        Talk.hold(x, "2.2");
        x.family(0, 0, false);
        Talk.hold(x, "3.9.1.4");
        x.family(0, 2, false);
        Check.same("NEXT leaves out what the VIEW has not", "2.3.1=1, 3.1.2.1='', 3.2.2.1=0",
                next(x, 0, "2.1.4", "3", "3.1.2.1"));
        x.access(0, 1, 0, 0, -1, -1);
        Check.same("NEXT in the CONTEXT 1", "1.1.0='', 1.2.0=0, 1.2.0=end", next(x, 1, "1", "1.1.0", "1.2.0"));
    }

    private static void bulks() {
        Agenttree x = open();
        Check.same("BULK of one", "4.6.0=c0, 4.7.0=c0, 4.8.0=c0", bulk(x, 0, 3, "4.6"));
        Check.same("BULK ends behind a ROUND of END", "4.6.0=c0, 4.7.0=c0, 4.8.0=c0, 4.8.0=end", bulk(x, 0, 8, "4.6"));
        Check.same("BULK of two", "4.7.0=c0, 4.8.0=end, 4.8.0=c0, 4.8.0=end, 4.8.0=end, 4.8.0=end",
                bulk(x, -1, 8, "4.7", "4.8.0"));
        Check.same("BULK with FEW", "1.2.0=0, 2.1.1=1, 2.1.2=2, 2.1.3=3", bulk(x, 1, 3, "1.1.0", "2.1"));
        Check.same("BULK with FEW of all", "1.2.0=0, 2.1.1=1", bulk(x, 99, 9, "1.1.0", "2.1"));
        Check.same("BULK with just all", "1.2.0=0, 2.1.1=1", bulk(x, 2, 9, "1.1.0", "2.1"));
        Check.same("BULK without ROUNDS", "1.2.0=0", bulk(x, 1, 0, "1.1.0", "2.1"));
        Check.same("BULK with MANY below 0", "1.2.0=0", bulk(x, 1, -9, "1.1.0", "2.1"));
        Check.same("BULK with nothing to tell", "", bulk(x, -9, -9, "1.1.0", "2.1"));
        Check.same("BULK of nothing", "", bulk(x, 0, 9));
        Check.same("BULK ends with the eighth BINDING", "2.1.1=1, 2.3.1=1, 4.6.0=c0, 2.1.2=2, 2.3.2=1, 4.7.0=c0, 2.1.3=3, 2.3.3=1",
                bulk(x, 0, 9, "2.1", "2.3", "4.6"));
        Check.same("BULK of eight ROUNDS", "2.1.1=1, 2.1.2=2, 2.1.3=3, 2.1.4=4, 2.2.1='', 2.2.2='', 2.2.3='', 2.2.4=''",
                bulk(x, 0, 99, "2.1"));
        Check.same("BULK of eight that are END at once", "5=end, 6=end, 5=end", bulk(x, 1, 7, "5", "6", "5"));
        Check.same("BULK goes on while one is not END", "4.8.0=c0, 5=end, 4.8.0=end, 5=end", bulk(x, 0, 7, "4.7.0", "5"));
        Check.same("its head", "0 response 0 0", Talk.askMany(x, 0, Talk.BULK, 0, 0, 3, 4).replaceFirst("response \\d+", "response"));
    }

    private static void noAccess() {
        Agenttree x = open();
        Check.same("GET in the CONTEXT 1 without a VIEW", "1 response 16 0", scopeWithout(x, Talk.GET, 0, 1));
        Check.same("BULK in the CONTEXT 9", "9 response 16 0", scopeWithout(x, Talk.BULK, 0, 9));
        Check.same("SET in the CONTEXT 2", "2 response 16 0", scopeWithout(x, Talk.SET, 2, 2));
        x.access(0, 0, 1, 0, -1, 0);
        Check.same("NEXT below LEAST", "0 response 16 0", scopeWithout(x, Talk.NEXT, 0, 0));
        Check.same("GET with LEAST", "0 response 0 0, 1.2.0=0", scopeWithout(x, Talk.GET, 1, 0));
        Check.same("SET without a WRITE VIEW", "0 response 16 0", scopeWithout(x, Talk.SET, 1, 0));
        x.access(0, 0, 0, -1, 0, 0);
        Check.same("SET with a WRITE VIEW", "0 response 0 0, 1.2.0=3", scopeWithout(x, Talk.SET, 0, 0));
        Check.same("GET without a READ VIEW", "0 response 16 0", scopeWithout(x, Talk.GET, 0, 0));
        x.access(0, 1, 2, -1, 0, -1);
        Check.same("LEAST of the CONTEXT 1", "1 response 16 0", scopeWithout(x, Talk.SET, 1, 1));
        Check.same("with it", "1 response 0 0, 1.2.0=3", scopeWithout(x, Talk.SET, 2, 1));
        Check.same("set there", "3", Talk.value(x, 1, "1.2.0"));
        Talk.lay(x, Rows.plain(77, 0, Rows.scope(-5, Rows.pdu(0, 78, 4, 5, Rows.binding("1.1.0", Rows.empty(5))))));
        x.inject(1);
        x.pass(0);
        Check.same("CONTEXT -5", "77 0 7 1 0 0 -1 0: -5 response 78 16 0", x.rowText(0));
        Check.same("to whom it came from", 1, x.ofRow(0, 1));
    }

    /** An ANSWER of 1.2.0 (=3 for a SET), without its REQUEST. */
    private static String scopeWithout(Agenttree x, int kind, int level, int context) {
        String binding = kind == Talk.SET ? "1.2.0=3" : "1.2.0";
        return Talk.askMany(x, 0, kind, level, context, 1, 0, binding).replaceFirst("response \\d+", "response");
    }

    private static void setsThatAreDone() {
        Agenttree x = open();
        Check.same("SET of many", "1.1.0='labeltxt', 1.2.0=9, 2.2.3='', 2.3.3=2, 2.3.4=1",
                behind(Talk.ask(x, 0, Talk.SET, 2, 0, "1.1.0='labeltxt'", "1.2.0=9", "2.2.3=''", "2.3.3=2", "2.3.4=1")));
        Check.same("the label", "'labeltxt'", Talk.value(x, 0, "1.1.0"));
        Check.same("the level", "9", Talk.value(x, 0, "1.2.0"));
        Check.same("the state", "2", Talk.value(x, 0, "2.3.3"));
        Check.same("the other CONTEXT", "''", Talk.value(x, 1, "1.1.0"));
        Check.same("a shorter label", "0 0", set(x, 0, "1.1.0='x'"));
        Check.same("the label", "'x'", Talk.value(x, 0, "1.1.0"));
        Check.same("least ones", "0 0", set(x, 0, "1.2.0=0", "2.3.3=1"));
        Check.same("SET of nothing", "0 0", set(x, 0));
        x.access(0, 1, 0, -1, 0, -1);
        x.note(1, 3, 4, true);
        Check.same("SET in the CONTEXT 1", "0 0", set(x, 1, "3.2.3.4=-2147483648", "3.1.3.4='12345678'", "3.3.3.4=2"));
        Check.same("the number", "-2147483648", Talk.value(x, 1, "3.2.3.4"));
        Check.same("the text", "'12345678'", Talk.value(x, 1, "3.1.3.4"));
        Check.same("the status", "2", Talk.value(x, 1, "3.3.3.4"));
        Check.same("awake again", "0 0", set(x, 1, "3.3.3.4=1"));
        Check.same("the status", "1", Talk.value(x, 1, "3.3.3.4"));
    }

    private static void wrong(String due, String... bindings) {
        Agenttree x = open();
        Talk.hold(x, "2.2");
        x.family(0, 0, false);
        x.note(0, 1, 1, true);
        Talk.hold(x, "1.2.0");
        String before = x.value(0);
        String all = String.join(", ", bindings);
        String scope = Talk.ask(x, 0, Talk.SET, 1, 0, bindings);
        Check.same("SET " + all, due, status(scope));
        Talk.hold(x, "1.2.0");
        Check.same("nothing is done of " + all, before, x.value(0));
        Check.same("no PORT changed", "1", Talk.value(x, 0, "2.3.1"));
        Check.same("BINDINGS as they came", all.replaceAll("(^|, )([0-9.]+)(?=,|$)", "$1$2=null"), behind(scope));
    }

    private static void setsThatAreWrong() {
        wrong("6 1", "2.2.1='a'");
        wrong("6 2", "1.2.0=5", "2.2.1=9999");
        wrong("6 1", "0=1");
        wrong("17 1", "1=1");
        wrong("17 1", "1.3.0=1");
        wrong("17 1", "2.1.1=1");
        wrong("17 1", "2.4.1=1");
        wrong("17 1", "4.1.0=1");
        wrong("17 2", "1.2.0=5", "3.4.1.1='a'");
        wrong("7 1", "1.1.0=5");
        wrong("7 1", "1.2.0='a'");
        wrong("7 1", "1.2.0");
        wrong("7 1", "1.1=5");
        wrong("7 1", "2.3.9='a'");
        wrong("8 1", "1.1.0='123456789'");
        wrong("8 1", "3.1.9='123456789'");
        wrong("8 3", "1.2.0=5", "3.2.1.1=7", "3.1.1.1='abcdefghijkl'");
        wrong("10 1", "1.2.0=10");
        wrong("10 1", "1.2.0=-1");
        wrong("10 1", "1.2=10");
        wrong("10 1", "2.3.1=0");
        wrong("10 1", "2.3.1=3");
        wrong("10 1", "3.3.1.1=0");
        wrong("10 1", "3.3.1.1=3");
        wrong("10 1", "3.3.1.1=5");
        wrong("10 1", "3.3.1.1=7");
        wrong("11 1", "1.2=5");
        wrong("11 1", "1.2.1=5");
        wrong("11 1", "1.2.0.0=5");
        wrong("11 1", "2.3.5=1");
        wrong("11 1", "2.3.0=1");
        wrong("11 1", "3.2.1=1");
        wrong("11 1", "3.2.4.1=1");
        wrong("11 1", "3.2.0.1=1");
        wrong("11 1", "3.2.1.5=1");
        wrong("11 1", "3.2.1.0=1");
        wrong("12 2", "1.2.0=5", "1.2.0=5");
        wrong("12 3", "1.2.0=5", "2.3.1=2", "1.2.0=6", "1.2.0='a'");
        wrong("7 2", "1.2.0=5", "1.2.0='a'", "2.2.1='a'");
        Agenttree x = open();
        x.draft(Talk.SET, 0, 0, 0, 0);
        Talk.hold(x, "1.2.0");
        x.bind(3, 5);
        Check.same("a COUNTER for an INTEGER", "7 1", status(Talk.sendAndPass(x, 0)));
        x.draft(Talk.SET, 0, 0, 0, 0);
        x.bind(4, 5);
        Check.same("TICKS for an INTEGER", "7 1", status(Talk.sendAndPass(x, 0)));
        x.shelve();
        Talk.hold(x, "1.1.0");
        x.draft(Talk.SET, 0, 0, 0, 0);
        x.bind(5, 5);
        Check.same("a NAME for OCTETS", "7 1", status(Talk.sendAndPass(x, 0)));
        x.access(0, 1, 0, 0, 0, 0);
        Check.same("2.3.1 is no COLUMN of the CONTEXT 1", "17 1", set(x, 1, "2.3.1=2"));
    }

    private static void setsOfNotes() {
        Agenttree x = open();
        Check.same("a NOTE that is not there", "12 1", set(x, 0, "3.2.1.1=5"));
        Check.same("asleep without being there", "12 1", set(x, 0, "3.3.1.1=2"));
        Check.same("goes without being there", "12 1", set(x, 0, "3.3.1.1=6"));
        Check.same("the INDEX is that of its first BINDING", "12 2", set(x, 0, "1.2.0=4", "3.2.2.2=5", "3.2.1.1=5", "3.3.2.2=1"));
        Check.same("nothing is done", "0", Talk.value(x, 0, "1.2.0"));
        Check.same("two that come", "0 0", set(x, 0, "3.3.1.1=4", "3.2.2.2=5", "3.3.2.2=4", "1.2.0=4"));
        Check.same("the first one", "'' 0 1", note(x, "1.1"));
        Check.same("the second one", "'' 5 1", note(x, "2.2"));
        Check.same("the others too", "4", Talk.value(x, 0, "1.2.0"));
        Check.same("one that comes and is there", "12 1", set(x, 0, "3.1.1.1='a'", "3.3.1.1=4"));
        Check.same("of two wrong NOTES that which is named first", "12 2",
                set(x, 0, "3.2.1.1=4", "3.2.3.3=1", "3.3.2.2=4", "3.1.3.3=''"));
        Check.same("of two wrong NOTES the other one", "12 3",
                set(x, 0, "1.2.0=1", "3.2.1.1=4", "3.1.2.2='a'", "3.2.3.3=1", "3.3.2.2=4"));
        Check.same("what is wrong by itself goes ahead", "7 3", set(x, 0, "3.2.3.3=1", "3.3.2.2=4", "1.2.0='a'"));
        Check.same("goes, and another one falls asleep", "0 0",
                set(x, 0, "3.2.1.1=77", "3.3.1.1=6", "3.1.1.1='gone'", "3.3.2.2=2"));
        Check.same("gone", "", Talk.value(x, 0, "3.2.1.1"));
        Check.same("asleep", "'' 5 2", note(x, "2.2"));
        Check.same("comes anew", "0 0", set(x, 0, "3.3.1.1=4"));
        Check.same("with nothing of before", "'' 0 1", note(x, "1.1"));
        Check.same("a number of one that is there", "0 0", set(x, 0, "3.2.1.1=6"));
        Check.same("the rest stays", "'' 6 1", note(x, "1.1"));
        Check.same("NOTES of the CONTEXT 1 are others", 2, x.ofAgent(5));
    }

    private static String note(Agenttree x, String which) {
        return Talk.value(x, 0, "3.1." + which) + " " + Talk.value(x, 0, "3.2." + which) + " "
                + Talk.value(x, 0, "3.3." + which);
    }

    private static void noteWithAll() {
        Agenttree x = open();
        Check.same("comes with all", "0 0", set(x, 0, "3.1.3.4='abc'", "3.2.3.4=-9", "3.3.3.4=4"));
        Check.same("all", "'abc' -9 1", note(x, "3.4"));
        Check.same("goes", "0 0", set(x, 0, "3.3.3.4=6"));
        Check.same("goes again", "12 1", set(x, 0, "3.3.3.4=6"));
    }

    private static void most() {
        Agenttree x = open();
        String[] five = {"1.1.0='aaaaaaaa'", "2.2.1='bbbbbbbb'", "2.2.2='cccccccc'", "2.2.3='dddddddd'", "2.2.4='eeeeeeee'"};
        x.draft(Talk.SET, 0, 0, 0, 0);
        Talk.bind(x, five);
        x.send(0);
        x.pass(0);
        int bytes = x.ofRow(0, 2);
        x.pass(0);
        Check.is("a row above 100", bytes > 100 && bytes < 255);
        x.most(bytes);
        Check.same("just MOST bytes", "0 0", set(x, 0, five));
        x.most(bytes - 1);
        five[0] = "1.1.0='AAAAAAAA'";
        Check.same("one more than MOST", "1 0", set(x, 0, five));
        Check.same("a SET is not done then", "'aaaaaaaa'", Talk.value(x, 0, "1.1.0"));
        Check.same("a wrong SET is too big, too", "0 response 0 1 0",
                Talk.ask(x, 0, Talk.SET, 0, 0, five[0], five[1], five[2], five[3], "2.2.4=77777", "9='eeee'").replaceFirst("response \\d+", "response 0"));
        Check.same("a GET", "1 0", status(Talk.ask(x, 0, Talk.GET, 0, 0, "1.1.0", "2.2.1", "2.2.2", "2.2.3", "2.2.4", "2.3.1")));
        String all = "1.1.0='aaaaaaaa', 2.2.1='bbbbbbbb', 2.2.2='cccccccc', 2.2.3='dddddddd', 2.2.4='eeeeeeee'";
        Check.same("a BULK leaves out at its end", all.substring(0, all.lastIndexOf(", ")),
                bulk(x, 9, 0, "1.1", "2.2", "2.2.1", "2.2.2", "2.2.3"));
        x.most(bytes);
        Check.same("a BULK with just MOST bytes", all, bulk(x, 9, 0, "1.1", "2.2", "2.2.1", "2.2.2", "2.2.3"));
        x.most(100);
        Check.is("a BULK of few bytes", bulk(x, 9, 0, "1.1", "2.2", "2.2.1", "2.2.2", "2.2.3").length() < 60);
    }

    private static void mostWithLongSalts() {
        Agenttree x = open();
        Talk.learn(x, 1);
        x.draft(Talk.GET, 2, 0, 0, 0);
        for (int round = 0; round < 8; round++) {
            for (int i = 0; i < 16; i++) {
                x.send(1);
            }
            x.passAll(40);
        }
        Check.same("rows of the LEVEL 2", 128, x.ofAgent(8));
        Talk.bind(x, "900.900.900.900.900.900.900.900", "900.900.900.900.900.900.900.901", "900");
        x.send(0);
        x.pass(0);
        int bytes = x.ofRow(0, 2);
        x.pass(0);
        // The MANAGER's own SALT has one byte.
        x.most(bytes);
        Check.same("a SALT of two bytes fits", "0 0", status(Talk.sendAndPass(x, 0)));
        x.most(bytes - 1);
        Check.same("a SALT of two bytes does not fit", "1 0", status(Talk.sendAndPass(x, 0)));
    }

    private static void silentKinds() {
        Agenttree x = open();
        for (int kind : new int[] {2, 5, 6, 7}) {
            Talk.come(x, 0, Rows.plain(5, 0, Rows.scope(0, Rows.pdu(kind, 5, 0, 0))));
            Check.same("nothing is SENT to the KIND " + kind, 0, x.rows());
        }
        Check.same("they are let", "5 0 1 0 0 0 0 0", Talk.counters(x));
    }
}
