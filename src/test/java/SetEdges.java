/** Section 5 of the document: SETS, each STATUS at its edge and ahead of those behind it, NOTES, and MOST. */
final class SetEdges {
    private SetEdges() {
    }

    static void run() {
        oneStatusBehindAnother();
        firstThatIsWrong();
        hasNotTheName();
        settableColumns();
        otherTags();
        longOctets();
        sameNames();
        notesThatComeAndGo();
        notesByTheirFirstBindings();
        notesAndOthers();
        allAtOnce();
        nothingIsDone();
        behindALongerOne();
        mostOfAllKinds();
        mostOfABulk();
        mostOfASet();
        mostOfOtherRows();
    }

    private static Agenttree open() {
        Agenttree x = RequestEdges.open();
        x.access(0, 1, 0, 0, 0, 0);
        return x;
    }

    /** STATUS, INDEX and BINDINGS of the RESPONSE to a SET of the LEVEL 0. */
    private static String set(Agenttree x, int context, int[]... bindings) {
        Talk.come(x, 0, Rows.plain(9, 0, Rows.scope(context, Rows.pdu(3, 44, 70, 80, bindings))));
        String text = x.rowText(0);
        x.lose(0);
        String head = "9 0 7 1 0 0 -1 0: " + context + " response 44 ";
        Check.is("the head of " + text, text.startsWith(head));
        return text.substring(head.length());
    }

    private static String status(Agenttree x, int[]... bindings) {
        return set(x, 0, bindings).split(",")[0];
    }

    private static int[] number(String name, int value) {
        return Rows.binding(name, Rows.integer(value));
    }

    private static int[] text(String name, String signs) {
        return Rows.binding(name, Rows.octets(signs));
    }

    private static void wrong(String due, int[]... bindings) {
        Agenttree x = open();
        Talk.hold(x, "2.2");
        x.family(0, 0, false);
        Check.same("STATUS and INDEX", due, status(x, bindings));
    }

    /** Each of these is wrong in two ways or more: the first one in the document's sequence tells. */
    private static void oneStatusBehindAnother() {
        wrong("6 1", number("9.9.9", 77));
        wrong("6 1", number("2.2.9", 77));
        wrong("6 1", text("2.2.1", "123456789"));
        wrong("17 1", text("1.3.0", "123456789"));
        wrong("17 1", number("1", 77));
        wrong("17 1", number("1.4.1", 77));
        wrong("17 1", number("2.1.9", 77));
        wrong("7 1", text("1.2.0", "123456789"));
        wrong("7 1", text("2.3.9", "123456789"));
        wrong("7 1", number("1.1.7", 77));
        wrong("7 1", Rows.binding("3.3.9.9", Rows.number(65, 77)));
        wrong("8 1", text("1.1.7", "123456789"));
        wrong("8 1", text("3.1", "123456789"));
        wrong("10 1", number("1.2.7", 77));
        wrong("10 1", number("2.3", 3));
        wrong("10 1", number("3.3.9.9", 3));
        wrong("11 1", number("1.2.7", 7));
        wrong("11 1", number("3.2.9.9", 77));
        // Ahead of 12 for the second one of the same NAME, too.
        wrong("7 2", number("1.2.0", 7), text("1.2.0", "a"));
        wrong("10 2", number("1.2.0", 7), number("1.2.0", 10));
        wrong("8 2", text("1.1.0", "a"), text("1.1.0", "123456789"));
        // 12 of one that stood ahead goes ahead of 12 of a NOTE.
        wrong("12 2", number("3.2.1.1", 7), number("3.2.1.1", 7));
        wrong("12 3", number("3.2.1.1", 7), number("1.2.0", 7), number("1.2.0", 8));
        wrong("12 1", number("3.2.1.1", 7), number("1.2.0", 7));
    }

    private static void firstThatIsWrong() {
        Doc.says("SET: BINDINGS are looked at one by one",
                "the first one that is wrong ends it: STATUS by that, INDEX its number (from 1 on), BINDINGS as they came.");
        for (int at = 1; at <= 8; at++) {
            Agenttree x = open();
            int[][] bindings = new int[8][];
            StringBuilder came = new StringBuilder();
            for (int i = 1; i <= 8; i++) {
                int p = (i - 1) % 4 + 1;
                // Behind the wrong one others are wrong, too.
                bindings[i - 1] = i < at ? (i < 5 ? text("2.2." + p, "x") : number("2.3." + p, 2)) : i == at ? number("1.2.0", 10)
                        : number("9", i);
                came.append(i < at ? (i < 5 ? ", 2.2." + p + "='x'" : ", 2.3." + p + "=2") : i == at ? ", 1.2.0=10" : ", 9=" + i);
            }
            Check.same("the BINDING " + at + " is wrong", "10 " + at + came, set(x, 0, bindings));
            Check.same("nothing is done", "'' 1 0", Talk.value(x, 0, "2.2.1") + " " + Talk.value(x, 0, "2.3.1") + " "
                    + Talk.value(x, 0, "1.2.0"));
        }
    }

    private static void hasNotTheName() {
        Doc.says("6, if V has not the NAME");
        Agenttree x = new Agenttree();
        Check.same("a VIEW of 1", "0 0", status(x, number("1.2.0", 5)));
        Check.same("not in it", "6 1", status(x, number("2.3.1", 2)));
        Talk.hold(x, "2.3.1");
        x.family(0, 0, true);
        Check.same("in it", "0 0", status(x, number("2.3.1", 2)));
        Check.same("the next one is not", "6 1", status(x, number("2.3.2", 2)));
        Talk.hold(x, "1.2");
        x.family(0, 0, false);
        Check.same("not in it any more", "6 1", status(x, number("1.2.0", 4)));
        x.access(0, 0, 0, 0, 2, 0);
        Check.same("the WRITE VIEW tells", "6 1", status(x, text("1.1.0", "a")));
        Talk.hold(x, "1.1.0");
        x.family(2, 0, true);
        x.access(0, 0, 0, 3, 2, 3);
        Check.same("the READ VIEW does not", "0 0", status(x, text("1.1.0", "a")));
        Check.same("what was set", "'a' 5 2", Talk.value(x, 0, "1.1.0") + " " + Talk.value(x, 0, "1.2.0") + " " + Talk.value(x, 0, "2.3.1"));
    }

    private static void settableColumns() {
        Doc.says("17, if it COULD BE one of no COLUMN that can be set");
        String both = " 1.1 1.2 3.1 3.2 3.3 ";
        for (int context = 0; context < 2; context++) {
            String settable = context == 0 ? both + "2.2 2.3 " : both;
            for (int a = 0; a <= 5; a++) {
                Agenttree x = open();
                Talk.hold(x, "0");
                x.family(0, 1, true);
                for (int b = 0; b <= 9; b++) {
                    // NULL is of no COLUMN's TAG.
                    boolean isSettable = settable.contains(" " + a + "." + b + " ");
                    Check.same(a + "." + b + ".0 in " + context, isSettable ? "7 1" : "17 1",
                            set(x, context, Rows.binding(a + "." + b + ".0", Rows.empty(5))).split(",")[0]);
                }
                Check.same("" + a + " alone", "17 1", set(x, context, Rows.binding("" + a, Rows.empty(5))).split(",")[0]);
            }
        }
    }

    private static void otherTags() {
        Doc.says("7, if the VALUE has another TAG");
        int[][] values = {Rows.integer(1), Rows.octets("a"), Rows.empty(5), Rows.name("1"), Rows.number(65, 1), Rows.number(67, 1),
            Rows.empty(128), Rows.empty(129), Rows.empty(130)};
        String[] names = {"1.1.0", "1.2.0", "2.2.1", "2.3.1", "3.1.1.1", "3.2.1.1", "3.3.1.1"};
        for (String name : names) {
            boolean isText = name.equals("1.1.0") || name.startsWith("2.2") || name.startsWith("3.1");
            Agenttree x = open();
            x.note(0, 1, 1, true);
            for (int i = 0; i < values.length; i++) {
                Check.same(name + " by the VALUE " + i, i == (isText ? 1 : 0) ? "0 0" : "7 1", status(x, Rows.binding(name, values[i])));
            }
        }
    }

    private static void longOctets() {
        Doc.says("8, OCTETS with more than 8 bytes");
        for (String name : new String[] {"1.1.0", "2.2.3", "3.1.3.4"}) {
            Agenttree x = open();
            x.note(0, 3, 4, true);
            for (int n = 0; n <= 12; n++) {
                Check.same(n + " OCTETS", n <= 8 ? "0 0" : "8 1", status(x, text(name, "abcdefghijkl".substring(0, n))));
            }
            Check.same("the last that was let", "'abcdefgh'", Talk.value(x, 0, name));
        }
    }

    private static void sameNames() {
        Doc.says("12, if the same NAME stood in a BINDING ahead.");
        for (int at = 2; at <= 8; at++) {
            Agenttree x = open();
            int[][] bindings = new int[at][];
            for (int i = 0; i < at; i++) {
                bindings[i] = i < 4 ? number("2.3." + (i + 1), 2) : text("2.2." + (i - 3), "a");
            }
            bindings[at - 1] = number("2.3.1", 2);
            Check.same("the first NAME again, at " + at, "12 " + at, status(x, bindings));
            Check.same("nothing is done", "1", Talk.value(x, 0, "2.3.1"));
            bindings[at - 1] = number("1.2.0", 2);
            Check.same("another NAME", "0 0", status(x, bindings));
        }
        wrong("12 3", number("1.2.0", 1), number("2.3.1", 1), number("2.3.1", 1));
    }

    private static void notesThatComeAndGo() {
        Doc.says("12 with the INDEX of that first one, if it is there, and its status becomes 4, or if it is not there, and its status "
                + "does not become 4.", "(status 4: the NOTE comes, awake, with what the other BINDINGS tell", "6: it goes, whatever the "
                + "others tell)");
        // Its status becomes: 0 nothing, or that.
        for (int status : new int[] {0, 1, 2, 4, 6}) {
            for (int others = 0; others < 4; others++) {
                for (int there = 0; there < 2; there++) {
                    Agenttree x = open();
                    x.note(1, 2, 3, there == 1);
                    int[] bindings = Rows.join(status > 0 ? number("3.3.2.3", status) : Rows.of(),
                            (others & 1) == 1 ? text("3.1.2.3", "new") : Rows.of(), (others & 2) == 2 ? number("3.2.2.3", 7) : Rows.of());
                    boolean isNamed = bindings.length > 0;
                    boolean isLet = !isNamed || (there == 1) != (status == 4);
                    Check.same("status " + status + ", others " + others + ", there " + there, isLet ? "0 0" : "12 1",
                            set(x, 1, bindings).split(",")[0]);
                    boolean isThen = isLet ? (there == 1 || status == 4) && status != 6 : there == 1;
                    String due = !isThen ? "" : (isLet && (others & 1) == 1 ? "'new'" : "''") + (isLet && (others & 2) == 2 ? "7" : "0")
                            + (isLet && status == 2 ? "2" : "1");
                    Check.same("what it is then", due, Talk.value(x, 1, "3.1.2.3") + Talk.value(x, 1, "3.2.2.3") + Talk.value(x, 1, "3.3.2.3"));
                    Check.same("OBJECTS of the CONTEXT 1", isThen ? 5 : 2, x.ofAgent(5));
                    Check.same("none of the CONTEXT 0", 31, x.ofAgent(4));
                }
            }
        }
        Agenttree x = open();
        Check.same("comes", "0 0", status(x, number("3.3.1.1", 4), text("3.1.1.1", "old"), number("3.2.1.1", 5)));
        Check.same("goes", "0 0", status(x, text("3.1.1.1", "last"), number("3.3.1.1", 6)));
        Check.same("comes anew", "0 0", status(x, number("3.3.1.1", 4)));
        Check.same("with nothing of before", "''01", Talk.value(x, 0, "3.1.1.1") + Talk.value(x, 0, "3.2.1.1") + Talk.value(x, 0, "3.3.1.1"));
    }

    private static void notesByTheirFirstBindings() {
        Doc.says("Then NOTE by NOTE, by the first BINDINGS of these, of each that is named");
        Agenttree x = open();
        x.note(0, 1, 1, true);
        // 1.1 is there, 2.2 is not.
        Check.same("the first one is wrong", "12 1", status(x, number("3.2.2.2", 1), number("3.2.1.1", 1)));
        Check.same("the second one is wrong", "12 2", status(x, number("3.2.1.1", 1), number("3.2.2.2", 1)));
        Check.same("both are wrong", "12 2", status(x, number("1.2.0", 1), number("3.2.2.2", 1), number("3.3.1.1", 4)));
        Check.same("both are wrong, otherwise", "12 2", status(x, number("1.2.0", 1), number("3.3.1.1", 4), number("3.2.2.2", 1)));
        Check.same("its status stands far behind", "12 1", status(x, text("3.1.1.1", "a"), number("3.2.1.1", 1), number("1.2.0", 1),
                number("3.3.1.1", 4)));
        Check.same("a first BINDING of a NOTE whose status becomes 4 behind", "0 0", status(x, text("3.1.2.2", "b"),
                number("3.2.1.1", 9), number("3.2.2.2", 8), number("3.3.2.2", 4)));
        Check.same("it is there", "'b'81", Talk.value(x, 0, "3.1.2.2") + Talk.value(x, 0, "3.2.2.2") + Talk.value(x, 0, "3.3.2.2"));
        Check.same("NOTES of the same i, or the same j", "12 2", status(x, number("3.2.1.1", 1), number("3.2.1.2", 1)));
        Check.same("NOTES of the same i, or the same j", "12 2", status(x, number("3.2.1.1", 1), number("3.2.2.1", 1)));
        Check.same("a status 4 of another NOTE does not count", "12 1", status(x, number("3.2.3.3", 1), number("3.3.3.4", 4)));
    }

    private static void notesAndOthers() {
        for (int note = 0; note < 12; note++) {
            Agenttree x = open();
            String which = (note / 4 + 1) + "." + (note % 4 + 1);
            String other = (note / 4 + 1) + "." + ((note + 1) % 4 + 1);
            x.note(0, note / 4 + 1, (note + 1) % 4 + 1, true);
            Check.same("one comes, another one goes", "0 0", status(x, number("3.3." + which, 4), number("3.3." + other, 6)));
            Check.same("the one that came", "''01", Talk.value(x, 0, "3.1." + which) + Talk.value(x, 0, "3.2." + which)
                    + Talk.value(x, 0, "3.3." + which));
            Check.same("the one that went", "", Talk.value(x, 0, "3.1." + other) + Talk.value(x, 0, "3.2." + other)
                    + Talk.value(x, 0, "3.3." + other));
            Check.same("OBJECTS", 34, x.ofAgent(4));
        }
    }

    private static void allAtOnce() {
        Doc.says("Without anything wrong all is done at once", "and the RESPONSE has the BINDINGS as they came, STATUS 0, INDEX 0.");
        Agenttree x = open();
        Check.same("eight", "0 0, 1.1.0='12345678', 1.2.0=9, 2.2.4='?', 2.3.4=2, 3.3.3.4=4, 3.1.3.4='', 3.2.3.4=-2147483648, 2.3.1=1",
                set(x, 0, text("1.1.0", "12345678"), number("1.2.0", 9), text("2.2.4", "'"), number("2.3.4", 2), number("3.3.3.4", 4),
                        text("3.1.3.4", ""), number("3.2.3.4", -2147483648), number("2.3.1", 1)));
        String[] names = {"1.1.0", "1.2.0", "2.2.4", "2.3.4", "3.1.3.4", "3.2.3.4", "3.3.3.4", "2.3.1"};
        String[] due = {"'12345678'", "9", "'?'", "2", "''", "-2147483648", "1", "1"};
        for (int i = 0; i < names.length; i++) {
            Check.same(names[i], due[i], Talk.value(x, 0, names[i]));
        }
        Check.same("the CONTEXT 1", "''0", Talk.value(x, 1, "1.1.0") + Talk.value(x, 1, "1.2.0"));
        Check.same("none", "0 0", set(x, 0));
    }

    private static void nothingIsDone() {
        Agenttree x = open();
        x.target(0, true, 1, 0, 0, false);
        x.note(0, 1, 1, true);
        String before = all(x);
        int[][] good = {text("1.1.0", "a"), number("1.2.0", 5), text("2.2.1", "b"), number("2.3.1", 2), number("3.3.1.1", 6),
            number("3.3.1.2", 4)};
        int[][] wrongs = {number("9", 1), number("1.3.0", 1), number("2.2.2", 1), text("2.2.2", "123456789"), number("2.3.2", 3),
            number("2.3.5", 1), number("1.2.0", 5), number("3.2.2.2", 1)};
        String[] due = {"6 7", "17 7", "7 7", "8 7", "10 7", "11 7", "12 7", "12 7"};
        for (int i = 0; i < wrongs.length; i++) {
            int[][] bindings = java.util.Arrays.copyOf(good, 7);
            bindings[6] = wrongs[i];
            Check.same("the last one is wrong", due[i], status(x, bindings));
            Check.same("nothing is done", before, all(x));
            Check.same("no NOTICE", 1000, x.ofAgent(7));
        }
        Check.same("without it", "0 0", status(x, good));
        Check.is("all is done", !before.equals(all(x)));
        Check.same("a NOTICE", 1001, x.ofAgent(7));
    }

    /** What stood in a longer SET ahead is not looked at. */
    private static void behindALongerOne() {
        Agenttree x = open();
        Check.same("two", "0 0", status(x, number("1.2.0", 5), number("2.3.1", 2)));
        x.port(1, true);
        Check.same("one", "0 0", status(x, number("1.2.0", 6)));
        Check.same("it alone is done", "6 1", Talk.value(x, 0, "1.2.0") + " " + Talk.value(x, 0, "2.3.1"));
        Check.same("a NOTE comes", "0 0", status(x, number("3.2.1.1", 5), number("3.3.1.1", 4)));
        x.note(0, 1, 1, false);
        Check.same("it does not come by that", "12 1", status(x, number("3.2.1.1", 5)));
        Check.same("the second one is wrong", "12 2", status(x, number("1.2.0", 1), number("3.2.2.2", 5)));
        Check.same("without it", "0 0", status(x, number("1.2.0", 1)));
        Check.same("none", "0 0", status(x));
        Check.same("nothing more is done", "1 1", Talk.value(x, 0, "1.2.0") + " " + Talk.value(x, 0, "2.3.1"));
    }

    private static String all(Agenttree x) {
        StringBuilder s = new StringBuilder();
        for (String name : new String[] {"1.1.0", "1.2.0", "2.2.1", "2.3.1", "3.3.1.1", "3.3.1.2"}) {
            s.append(Talk.value(x, 0, name)).append(' ');
        }
        return s.toString();
    }

    // ---- MOST

    /** A RESPONSE to a row of some KIND and LEVEL with five BINDINGS; its text without the head. */
    private static String answer(Agenttree x, int kind, int level) {
        int[] bindings = {};
        for (int i = 1; i <= 4; i++) {
            bindings = Rows.join(bindings, Rows.binding((kind == 3 || kind == 0 ? "2.2." : "2.1.") + i, Rows.octets("abcdefgh")));
        }
        bindings = Rows.join(bindings, kind == 3 ? Rows.binding("1.1.0", Rows.octets("12")) : Rows.binding("1.1.0", Rows.empty(5)));
        int[] scope = Rows.scope(0, Rows.pdu(kind, 44, 99, 0, bindings));
        Talk.come(x, 0, level == 0 ? Rows.plain(9, 0, scope) : Rows.sealed(x.ofAgent(9), level, 7, 1, 0, 0, 1000, 0, scope));
        x.draft(0, level, 0, 0, 0);
        Check.same("just one row", 1, x.rows());
        String text = x.rowText(0);
        return level == 2 ? text.split(" ")[8] : text.substring(text.indexOf("response"));
    }

    private static void mostOfAllKinds() {
        Doc.says("If the row of a RESPONSE would have more than MOST bytes (100 to 255; 255 at first)",
                "of others STATUS is 1, INDEX 0, and there are no BINDINGS (a SET is not done then).");
        Doc.promise(7, "Returns that before.");
        Check.same("MOST at first", 255, new Agenttree().most(100));
        for (int kind : new int[] {0, 1, 3}) {
            for (int level = 0; level <= 2; level++) {
                Agenttree x = open();
                fill(x);
                answer(x, kind, level);
                int bytes = x.ofRow(0, 2);
                x.lose(0);
                Check.is("a RESPONSE of 100 and more: " + bytes, bytes >= 100);
                Check.same("MOST before", 255, x.most(bytes));
                Check.is("just MOST", !isTooBig(answer(x, kind, level), level));
                Check.same("its bytes", bytes, x.ofRow(0, 2));
                x.lose(0);
                if (bytes > 100) {
                    x.most(bytes - 1);
                    Check.same("MOST", bytes - 1, x.ofAgent(3));
                    Check.is("one more than MOST", isTooBig(answer(x, kind, level), level));
                    Check.is("few bytes", x.ofRow(0, 2) < 100);
                    x.lose(0);
                }
            }
        }
    }

    private static void fill(Agenttree x) {
        Check.same("labels", "0 0", status(x, text("2.2.1", "aaaaaaaa"), text("2.2.2", "bbbbbbbb"), text("2.2.3", "cccccccc"),
                text("2.2.4", "dddddddd")));
    }

    /** STATUS 1 and no BINDINGS; of the LEVEL 2 by how many bytes such a SCOPE has. */
    private static boolean isTooBig(String answer, int level) {
        int bytes = Rows.scope(0, Rows.pdu(2, 44, 1, 0)).length;
        return answer.equals(level == 2 ? "" + bytes : "response 44 1 0");
    }

    private static void mostOfABulk() {
        Doc.says("of a BULK BINDINGS at its end are left out, until it has not");
        String[] all = {"2.2.1='aaaaaaaa'", "2.2.2='bbbbbbbb'", "2.2.3='cccccccc'", "2.2.4='dddddddd'", "2.3.1=1", "2.3.2=1", "2.3.3=1",
            "2.3.4=1"};
        int[] scope = Rows.scope(0, RequestEdges.pdu(4, 0, 8, "2.2"));
        for (int most = 100; most <= 160; most++) {
            Agenttree x = open();
            fill(x);
            x.most(most);
            Talk.come(x, 0, Rows.plain(9, 0, scope));
            String text = x.rowText(0);
            int n = text.split("=").length - 1;
            Check.same("the BINDINGS with MOST " + most, "response 44 0 0" + (n == 0 ? "" : ", ")
                    + String.join(", ", java.util.Arrays.copyOf(all, n)), text.substring(text.indexOf("response")));
            Check.is("not more than MOST", x.ofRow(0, 2) <= most);
            int whole = bytes(all, n + 1);
            Check.is("one more would be more than MOST " + most, n == 8 || whole > most);
            Check.same("its bytes", bytes(all, n), x.ofRow(0, 2));
        }
    }

    private static int bytes(String[] all, int n) {
        int[] bindings = {};
        for (int i = 0; i < n && i < all.length; i++) {
            String name = all[i].substring(0, 5);
            bindings = Rows.join(bindings, i < 4 ? text(name, "aaaaaaaa") : number(name, 1));
        }
        return Rows.plain(9, 0, Rows.scope(0, Rows.pdu(2, 44, 0, 0, bindings))).length;
    }

    private static void mostOfASet() {
        int[][] bindings = {text("1.1.0", "aaaaaaaa"), text("2.2.1", "bbbbbbbb"), text("2.2.2", "cccccccc"), number("2.3.1", 2)};
        int bytes = Rows.plain(9, 0, Rows.scope(0, Rows.pdu(2, 44, 0, 0, bindings))).length;
        for (int less = 0; less < 2; less++) {
            Agenttree x = open();
            x.target(0, true, 1, 0, 0, false);
            x.most(bytes - less);
            Talk.come(x, 0, Rows.plain(9, 0, Rows.scope(0, Rows.pdu(3, 44, 0, 0, bindings))));
            Check.is("the RESPONSE", x.rowText(0).contains(less == 0 ? "response 44 0 0, 1.1.0" : "response 44 1 0"));
            Check.same("done, or not", less == 0 ? "'aaaaaaaa'2" : "''1", Talk.value(x, 0, "1.1.0") + Talk.value(x, 0, "2.3.1"));
            Check.same("a NOTICE behind it, or none", 2 - less, x.rows());
        }
        // One that is wrong is too big as well.
        Agenttree x = open();
        x.most(bytes - 1);
        int[][] wrong = java.util.Arrays.copyOf(bindings, 4);
        wrong[3] = number("2.3.1", 3);
        Check.same("wrong, and too big", "1 0", set(x, 0, wrong));
        x.most(bytes);
        Check.same("wrong alone", "10 4, 1.1.0='aaaaaaaa', 2.2.1='bbbbbbbb', 2.2.2='cccccccc', 2.3.1=3", set(x, 0, wrong));
    }

    /** REPORTS, DRAFTS and a MANAGER's RESPONSES are not looked at by MOST. */
    private static void mostOfOtherRows() {
        Agenttree x = open();
        x.most(100);
        Talk.learn(x, 0);
        x.draft(0, 0, 0, 0, 0);
        for (int i = 0; i < 8; i++) {
            Talk.bind(x, "1.2.3.4.5.6.7." + i);
        }
        x.send(0);
        Check.is("a DRAFT", x.ofRow(0, 2) > 100);
        x.pass(0);
        Check.is("its RESPONSE", x.ofRow(0, 2) <= 100);
        x.pass(0);
        int[] bindings = {};
        for (int i = 0; i < 5; i++) {
            bindings = Rows.join(bindings, Rows.binding("1.2.3.4.5.6.7." + i, Rows.empty(5)));
        }
        x.most(255);
        int[] inform = Rows.open(5, 7, 1, 0, 0, Rows.scope(0, Rows.pdu(6, 5, 0, 0, bindings)));
        int sent = x.house(0);
        Forge forge = new Forge(x, 0);
        forge.come(inform);
        x.most(100);
        x.lose(0);
        forge.come(inform);
        Check.same("a RESPONSE of a MANAGER", inform.length, x.ofRow(0, 2));
        Check.is("above MOST", inform.length > 100 && x.house(0) > sent);
    }
}
