/** Section 3 of the document: OBJECTS, COLUMNS, what they are at first, and at their edges. */
final class TreeEdges {
    private TreeEdges() {
    }

    static void run() {
        objectsAtFirst();
        countersGoOn();
        labels();
        levelsStatesAndStatuses();
        notesAtTheirEdges();
        objectsOfNotes();
        columns();
        couldBe();
        isOne();
    }

    private static Agenttree open() {
        Agenttree x = new Agenttree();
        Talk.learn(x, 0);
        Talk.seeAll(x);
        x.access(0, 1, 0, 0, 0, 0);
        return x;
    }

    private static void objectsAtFirst() {
        Doc.says("CONTEXTS 0 and 1.", "OBJECTS of each: 1.1.0 its label (OCTETS, at most 8;",
                "empty at first), 1.2.0 its level (INTEGER 0 to 9;", "0 at first). Of the CONTEXT 0 alone: 1.3.0 TICKS: TIME",
                "of PORTS p 1 to 4: 2.1.p the INTEGER p, 2.2.p a label (OCTETS, at most 8;",
                "empty at first), 2.3.p its state (INTEGER 1 up, 2 down;",
                "1 at first), 2.4.p and 2.5.p COUNTERS of what came in and went out (0 at first;",
                "4.1.0 to 4.8.0 COUNTERS (section 5; likewise).");
        Agenttree x = open();
        Agenttree y = new Agenttree();
        Check.same("OBJECTS of the CONTEXT 0", 31, y.ofAgent(4));
        Check.same("OBJECTS of the CONTEXT 1", 2, y.ofAgent(5));
        Check.same("walk of the CONTEXT 0", "1.1.0 1.2.0 1.3.0 2.1.1 2.1.2 2.1.3 2.1.4 2.2.1 2.2.2 2.2.3 2.2.4 2.3.1 2.3.2 2.3.3 "
                + "2.3.4 2.4.1 2.4.2 2.4.3 2.4.4 2.5.1 2.5.2 2.5.3 2.5.4 4.1.0 4.2.0 4.3.0 4.4.0 4.5.0 4.6.0 4.7.0 4.8.0", x.walk(0, 0));
        Check.same("walk of the CONTEXT 1", "1.1.0 1.2.0", x.walk(0, 1));
        for (int context = 0; context < 2; context++) {
            Check.same("its label", "''", Talk.value(y, context, "1.1.0"));
            Check.same("its level", "0", Talk.value(y, context, "1.2.0"));
            Check.same("TICKS", context == 0 ? "t0" : "", Talk.value(y, context, "1.3.0"));
            for (int p = 0; p <= 5; p++) {
                boolean isOne = context == 0 && p >= 1 && p <= 4;
                String[] due = {"" + p, "''", "1", "c0", "c0"};
                for (int column = 0; column <= 6; column++) {
                    Check.same("2." + column + "." + p, isOne && column >= 1 && column <= 5 ? due[column - 1] : "",
                            Talk.value(y, context, "2." + column + "." + p));
                }
            }
            for (int i = 0; i <= 9; i++) {
                Check.same("4." + i + ".0", context == 0 && i >= 1 && i <= 8 ? "c0" : "", Talk.value(y, context, "4." + i + ".0"));
            }
        }
    }

    private static void countersGoOn() {
        Doc.says("behind 65535 they go on at 0)");
        Doc.promise(5, "Returns its COUNTER 2.4.p then.");
        for (int port = 1; port <= 4; port++) {
            Agenttree x = new Agenttree();
            Check.same("65534", 65534, x.traffic(port, 65534, 0));
            Check.same("65535", 65535, x.traffic(port, 1, 65534));
            Check.same("0 behind it", 0, x.traffic(port, 1, 1));
            Check.same("2.4.p", "c0", Talk.value(x, 0, "2.4." + port));
            Check.same("2.5.p", "c65535", Talk.value(x, 0, "2.5." + port));
            Check.same("nothing came in", 0, x.traffic(port, 0, 1));
            Check.same("2.5.p", "c0", Talk.value(x, 0, "2.5." + port));
            Check.same("65535 at once", 65535, x.traffic(port, 65535, 65535));
            Check.same("65535 more are one less", 65534, x.traffic(port, 65535, 65535));
            Check.same("2.5.p", "c65534", Talk.value(x, 0, "2.5." + port));
            for (int other = 1; other <= 4; other++) {
                Check.same("2.4 of another", other == port ? "c65534" : "c0", Talk.value(x, 0, "2.4." + other));
                Check.same("2.5 of another", other == port ? "c65534" : "c0", Talk.value(x, 0, "2.5." + other));
            }
            Check.is("isSound()", x.isSound());
        }
    }

    private static String status(String scope) {
        String[] words = scope.split("[ ,]");
        return words[3] + " " + words[4];
    }

    private static String set(Agenttree x, int context, String... bindings) {
        return status(Talk.ask(x, 0, Talk.SET, 0, context, bindings));
    }

    private static void labels() {
        Doc.says("1.1.0 its label (OCTETS, at most 8; can be set;", "2.2.p a label (OCTETS, at most 8; can be set;",
                "3.1.i.j a text (OCTETS, at most 8; can be set;");
        String[] names = {"1.1.0", "2.2.1", "2.2.4", "3.1.2.3"};
        for (String name : names) {
            for (int context = 0; context <= (name.startsWith("2") ? 0 : 1); context++) {
                Agenttree x = open();
                x.note(context, 2, 3, true);
                for (int n : new int[] {0, 1, 7, 8, 9, 12, 0}) {
                    String text = "abcdefghijkl".substring(0, n);
                    String before = Talk.value(x, context, name);
                    Check.same(name + " of " + n, n <= 8 ? "0 0" : "8 1", set(x, context, name + "='" + text + "'"));
                    Check.same(name + " then", n <= 8 ? "'" + text + "'" : before, Talk.value(x, context, name));
                    Check.same("that of the other CONTEXT", name.startsWith("1") ? "''" : "", Talk.value(x, 1 - context, name));
                }
            }
        }
    }

    private static void levelsStatesAndStatuses() {
        Doc.says("1.2.0 its level (INTEGER 0 to 9; can be set;", "2.3.p its state (INTEGER 1 up, 2 down; can be set;",
                "3.2.i.j a number (INTEGER; can be set;", "3.3.i.j its status (INTEGER 1 awake, 2 asleep; can be set;",
                "10, an INTEGER that is not let (level 0 to 9, state 1 and 2, status 1, 2, 4 and 6)");
        int[] numbers = {-2147483648, -10, -1, 0, 1, 2, 3, 4, 5, 6, 7, 8, 9, 10, 11, 256, 2147483647};
        for (int n : numbers) {
            Agenttree x = open();
            x.note(0, 1, 1, true);
            Check.same("level " + n, n >= 0 && n <= 9 ? "0 0" : "10 1", set(x, 0, "1.2.0=" + n));
            Check.same("level then", n >= 0 && n <= 9 ? "" + n : "0", Talk.value(x, 0, "1.2.0"));
            Check.same("state " + n, n == 1 || n == 2 ? "0 0" : "10 1", set(x, 0, "2.3.4=" + n));
            Check.same("state then", n == 2 ? "2" : "1", Talk.value(x, 0, "2.3.4"));
            Check.same("number " + n, "0 0", set(x, 0, "3.2.1.1=" + n));
            Check.same("number then", "" + n, Talk.value(x, 0, "3.2.1.1"));
            // 4 is let, but the NOTE is there.
            String due = n == 1 || n == 2 || n == 6 ? "0 0" : n == 4 ? "12 1" : "10 1";
            Check.same("status " + n, due, set(x, 0, "3.3.1.1=" + n));
            Check.same("status then", n == 6 ? "" : n == 2 ? "2" : "1", Talk.value(x, 0, "3.3.1.1"));
        }
    }

    private static void notesAtTheirEdges() {
        Doc.says("Of NOTES (i, j) of each CONTEXT, i 1 to 3, j 1 to 4, as far as these are there (none at first)");
        Doc.promise(6, "Returns 1 if it was otherwise, otherwise 0.");
        for (int context = 0; context < 2; context++) {
            Agenttree x = new Agenttree();
            int there = x.ofAgent(4 + context);
            int n = 0;
            for (int i = 1; i <= 3; i++) {
                for (int j = 1; j <= 4; j++) {
                    Check.same("a NOTE goes that is not there", 0, x.note(context, i, j, false));
                    Check.same("it is not there", "", Talk.value(x, context, "3.3." + i + "." + j));
                    Check.same("a NOTE comes", 1, x.note(context, i, j, true));
                    Check.same("a NOTE comes that is there", 0, x.note(context, i, j, true));
                    n++;
                    Check.same("OBJECTS", there + 3 * n, x.ofAgent(4 + context));
                    Check.same("OBJECTS of the other CONTEXT", context == 0 ? 2 : 31, x.ofAgent(5 - context));
                }
            }
            for (int i = 1; i <= 3; i++) {
                for (int j = 1; j <= 4; j++) {
                    Check.same("a NOTE goes", 1, x.note(context, i, j, false));
                    Check.same("a NOTE goes that is gone", 0, x.note(context, i, j, false));
                    n--;
                    Check.same("OBJECTS", there + 3 * n, x.ofAgent(4 + context));
                }
            }
        }
    }

    private static void objectsOfNotes() {
        Doc.says("empty at first), 3.2.i.j a number (INTEGER;", "0 at first), 3.3.i.j its status (INTEGER 1 awake, 2 asleep;",
                "1 at first). COLUMNS");
        for (int note = 0; note < 12; note++) {
            String which = (note / 4 + 1) + "." + (note % 4 + 1);
            Agenttree x = open();
            x.note(1, note / 4 + 1, note % 4 + 1, true);
            Check.same("its text at first", "''", Talk.value(x, 1, "3.1." + which));
            Check.same("its number at first", "0", Talk.value(x, 1, "3.2." + which));
            Check.same("its status at first", "1", Talk.value(x, 1, "3.3." + which));
            Check.same("set", "0 0", set(x, 1, "3.1." + which + "='abc'", "3.2." + which + "=-9", "3.3." + which + "=2"));
            Check.same("it stays if it is to come again", 0, x.note(1, note / 4 + 1, note % 4 + 1, true));
            Check.same("its text", "'abc'", Talk.value(x, 1, "3.1." + which));
            Check.same("its number", "-9", Talk.value(x, 1, "3.2." + which));
            Check.same("its status", "2", Talk.value(x, 1, "3.3." + which));
            x.note(1, note / 4 + 1, note % 4 + 1, false);
            for (int column = 1; column <= 3; column++) {
                Check.same("gone", "", Talk.value(x, 1, "3." + column + "." + which));
            }
            x.note(1, note / 4 + 1, note % 4 + 1, true);
            Check.same("its text anew", "''", Talk.value(x, 1, "3.1." + which));
            Check.same("its number anew", "0", Talk.value(x, 1, "3.2." + which));
            Check.same("its status anew", "1", Talk.value(x, 1, "3.3." + which));
            Check.same("none of the CONTEXT 0", 31, x.ofAgent(4));
        }
    }

    private static String get(Agenttree x, int context, String name) {
        String scope = Talk.ask(x, 0, Talk.GET, 0, context, name);
        return scope.substring(scope.indexOf('=') + 1);
    }

    private static void columns() {
        Doc.says("COLUMNS of a CONTEXT: 1.1, 1.2, 3.1, 3.2, 3.3", "of the CONTEXT 0 also 1.3, 2.1 to 2.5, 4.1 to 4.8.");
        String both = " 1.1 1.2 3.1 3.2 3.3 ";
        String ofNone = both + "1.3 2.1 2.2 2.3 2.4 2.5 4.1 4.2 4.3 4.4 4.5 4.6 4.7 4.8 ";
        for (int context = 0; context < 2; context++) {
            for (int a = 0; a <= 5; a++) {
                Agenttree x = open();
                // A FAMILY that each NAME is OF.
                Talk.hold(x, "0");
                x.family(0, 1, true);
                for (int b = 0; b <= 9; b++) {
                    boolean isColumn = (context == 0 ? ofNone : both).contains(" " + a + "." + b + " ");
                    Check.same("the COLUMN " + a + "." + b + " of " + context, isColumn ? "no instance" : "no object",
                            get(x, context, a + "." + b));
                }
                Check.same("a number alone is of none", "no object", get(x, context, "" + a));
                Check.same("999 is of none", "no object", get(x, context, a + ".999"));
            }
        }
    }

    private static void couldBe() {
        Doc.says("A NAME COULD BE one of a COLUMN, if it BEGINS with it");
        Agenttree x = open();
        String[] could = {"1.1", "1.1.1", "1.1.0.0", "1.1.999.1.2.3.4.5", "2.3.0", "2.3.5", "3.3.4.1", "3.3.1", "4.8.1"};
        for (String name : could) {
            Check.same(name + " COULD BE one", "no instance", get(x, 0, name));
        }
        for (String name : new String[] {"1", "1.4.1.1", "11.1.0", "1.11.0", "3.0.1.1", "2.6.1.0"}) {
            Check.same(name + " could not", "no object", get(x, 0, name));
        }
    }

    private static void isOne() {
        Doc.says("it IS ONE of it, if behind that there stands just 0 (of 1 and 4), a p (of 2), an i and a j (of 3).",
                "11, if the NAME IS ONE of no COLUMN");
        String[] isOne = {"1.1.0='a'", "1.2.0=1", "2.2.1='a'", "2.2.4='a'", "2.3.1=1", "2.3.4=1", "3.1.1.1='a'", "3.2.3.4=1",
            "3.3.3.1=1", "3.3.1.4=1"};
        String[] isNone = {"1.1='a'", "1.1.1='a'", "1.1.0.0='a'", "1.2.999=1", "2.2='a'", "2.2.0='a'", "2.2.5='a'", "2.2.1.0='a'",
            "2.3=1", "2.3.0=1", "2.3.5=1", "2.3.1.1=1", "3.1.1='a'", "3.1='a'", "3.1.0.1='a'", "3.1.4.1='a'", "3.1.1.0='a'",
            "3.1.1.5='a'", "3.1.1.1.0='a'", "3.2.0.4=1", "3.2.4.4=1", "3.2.3.0=1", "3.2.3.5=1", "3.3.1=1", "3.3.1.1.1=1"};
        Agenttree x = open();
        for (int i = 1; i <= 3; i++) {
            for (int j = 1; j <= 4; j++) {
                x.note(0, i, j, true);
            }
        }
        for (String binding : isOne) {
            Check.same(binding + " IS ONE", "0 0", set(x, 0, binding));
        }
        for (String binding : isNone) {
            Check.same(binding + " is none", "11 1", set(x, 0, binding));
        }
    }
}
