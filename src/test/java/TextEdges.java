/** Section 8 of the document, and what else is told: what is in HAND, on the BENCH, and of the whole. */
final class TextEdges {
    private TextEdges() {
    }

    static void run() {
        scopes();
        faults();
        rows();
        values();
        hand();
        shelf();
        letters();
        bench();
        house();
        knocks();
        sound();
        digests();
        digestOfEachCall();
    }

    private static void scopes() {
        Doc.says("SCOPE as a text: CONTEXT, the name of its KIND (\"get\", \"next\", \"response\", \"set\", \"bulk\", \"trap\", \"inform\", \"report\"), "
                + "REQUEST, STATUS, INDEX, with a blank between", "then for each BINDING \", \", the NAME, \"=\", the VALUE as written.");
        String[] words = {"get", "next", "response", "set", "bulk", "trap", "inform", "report"};
        for (int kind = 0; kind < 8; kind++) {
            int[] none = Rows.scope(-7, Rows.pdu(kind, 2147483647, -2147483648, 0));
            Check.same("without BINDINGS", "1 0 7 1 0 2 -1 0: -7 " + words[kind] + " 2147483647 -2147483648 0",
                    BytesEdges.read(Rows.plain(1, 2, none)));
            int[] three = Rows.scope(0, Rows.pdu(kind, 1, 2, 3, Rows.binding("0", Rows.octets("=, ")), Rows.binding("1.2.3.4.5.6.7.999",
                    Rows.empty(129)), Rows.binding("5.5", Rows.name("6.6"))));
            Check.same("with three", "1 0 7 1 0 2 -1 0: 0 " + words[kind] + " 1 2 3, 0='=, ', 1.2.3.4.5.6.7.999=no instance, 5.5=6.6",
                    BytesEdges.read(Rows.plain(1, 2, three)));
        }
    }

    private static void faults() {
        Doc.says("A row as a text: \"fault \" and its FAULT, if it has one");
        Doc.promise(51, "Returns the FAULT of the row on the BENCH as a MESSAGE; NONE without.");
        int[] row = Rows.plain(1, 2, Rows.scope(0, Rows.pdu(0, 1, 0, 0)));
        for (int behind = 0; behind <= 2; behind++) {
            Agenttree x = new Agenttree();
            Talk.lay(x, Rows.join(row, new int[behind]));
            Check.same("its FAULT", behind == 0 ? -1 : row.length, x.fault());
            Check.same("its text", behind == 0 ? "1 0 7 1 0 2 -1 0: 0 get 1 0 0" : "fault " + row.length, x.read());
            x.inject(0);
            Check.same("of a row under way", x.fault(), x.ofRow(0, 3));
            Check.same("its text", x.read(), x.rowText(0));
        }
        Agenttree y = new Agenttree();
        Check.same("no byte", "fault 0", y.read());
        int[] full = new int[255];
        int[] long1 = Rows.list(Rows.integer(3), Rows.integer(1), Rows.integer(2), Rows.integer(7), Rows.integer(1), Rows.integer(0),
                Rows.integer(2), Rows.of(4, 2, 0, 0), Rows.integer(0), Rows.part(4, new int[220]));
        System.arraycopy(long1, 0, full, 0, 254);
        Talk.lay(y, full);
        Check.same("the last byte of 255", "254 fault 254", y.fault() + " " + y.read());
    }

    private static void rows() {
        Doc.says("otherwise ID, LEVEL, ENGINE, BOOTS, TIME, USER, the SUM as a number (its first byte * 256 and the second one; NONE without), SALT, "
                + "with a blank between", "then \": \" and its SCOPE as a text", "of the LEVEL 2 \": \" and how many bytes its ciphered SCOPE has.");
        Doc.promise(39, "Returns it as a text (section 8).");
        Doc.promise(52, "Returns the row on the BENCH as a text (section 8).");
        int[] scope = Rows.scope(0, Rows.pdu(0, 1, 0, 0));
        int[][] sums = {{0, 0}, {0, 1}, {1, 0}, {255, 255}, {128, 127}};
        for (int level = 0; level <= 2; level++) {
            for (int[] sum : sums) {
                for (int n : new int[] {0, 1, 127, 128}) {
                    int[] last = level == 2 ? Rows.part(4, new int[n]) : scope;
                    int[] row = Rows.list(Rows.integer(3), Rows.integer(-1), Rows.integer(level), Rows.integer(128), Rows.integer(-129),
                            Rows.integer(32768), Rows.integer(2147483647), level == 0 ? Rows.of(4, 0) : Rows.part(4, sum),
                            Rows.integer(level == 2 ? 255 : 0), last);
                    Check.same("its text", "-1 " + level + " 128 -129 32768 2147483647 " + (level == 0 ? -1 : sum[0] * 256 + sum[1])
                            + (level == 2 ? " 255: " + n : " 0: 0 get 1 0 0"), BytesEdges.read(row));
                }
            }
        }
    }

    private static void values() {
        Doc.promise(9, "Returns the VALUE of the OBJECT in HAND there; \"\" if none is there.");
        Agenttree x = new Agenttree();
        x.note(1, 3, 4, true);
        x.traffic(4, 65535, 0);
        x.tick(40);
        String[] names = {"1.1.0", "1.2.0", "1.3.0", "2.1.4", "2.4.4", "2.5.4", "4.8.0", "3.1.3.4", "3.2.3.4", "3.3.3.4"};
        String[] due0 = {"''", "0", "t40", "4", "c65535", "c0", "c0", "", "", ""};
        String[] due1 = {"''", "0", "", "", "", "", "", "''", "0", "1"};
        for (int i = 0; i < names.length; i++) {
            Check.same(names[i] + " in 0", due0[i], Talk.value(x, 0, names[i]));
            Check.same(names[i] + " in 1", due1[i], Talk.value(x, 1, names[i]));
            Check.same(names[i] + ".0", "", Talk.value(x, 0, names[i] + ".0"));
            Check.same("without its last number", "", Talk.value(x, 0, names[i].substring(0, names[i].lastIndexOf('.'))));
        }
    }

    private static void hand() {
        Doc.promise(11, "A NAME is taken in HAND; NONES are left out.", "Returns how many numbers it has.");
        Doc.promise(12, "The NAME in HAND gets numbers behind; NONES are left out.", "Returns how many numbers it has then.");
        Doc.promise(13, "Returns the NAME in HAND; \"\" without.");
        Check.same("without", "", new Agenttree().hand());
        for (int which = 1; which < 16; which++) {
            int[] n = new int[4];
            StringBuilder due = new StringBuilder();
            for (int i = 0; i < 4; i++) {
                n[i] = (which >> i & 1) == 1 ? new int[] {0, 999, 1, 128}[i] : -1;
                due.append(n[i] < 0 ? "" : (due.length() == 0 ? "" : ".") + n[i]);
            }
            Agenttree x = new Agenttree();
            int count = Integer.bitCount(which);
            Check.same("name() of " + which, count, x.name(n[0], n[1], n[2], n[3]));
            Check.same("hand()", due.toString(), x.hand());
            Check.same("longer() by " + which, 2 * count, x.longer(n[0], n[1], n[2], n[3]));
            Check.same("hand()", due + "." + due, x.hand());
            Check.same("longer() by none", 2 * count, x.longer(-1, -1, -1, -1));
            Check.same("name() in its place", 1, x.name(-1, 7, -1, -1));
            Check.same("hand()", "7", x.hand());
        }
    }

    private static void shelf() {
        Doc.promise(14, "Returns how many numbers it has.", "(in the place of that which lies there)");
        Doc.promise(15, "Returns -1, 0 or 1, as by ORDER the NAME in HAND is ahead of that on the SHELF, the same, or behind it.");
        Doc.promise(16, "Returns whether the NAME in HAND BEGINS with that on the SHELF.");
        String eight = "1.2.3.4.5.6.7.8";
        Agenttree x = new Agenttree();
        for (int n = 8; n >= 1; n--) {
            Talk.hold(x, eight.substring(0, 2 * n - 1));
            Check.same("shelve()", n, x.shelve());
            Check.same("the HAND keeps it", eight.substring(0, 2 * n - 1), x.hand());
            Check.same("the same", "0 true", x.compare() + " " + x.begins());
            Talk.hold(x, eight);
            Check.same("in the place of that before", (n < 8 ? 1 : 0) + " true", x.compare() + " " + x.begins());
            Talk.hold(x, "1");
            Check.same("a short one", (n > 1 ? -1 : 0) + " " + (n == 1), x.compare() + " " + x.begins());
        }
        Talk.hold(x, "0");
        Check.same("ahead", "-1 false", x.compare() + " " + x.begins());
        Talk.hold(x, "2");
        Check.same("behind", "1 false", x.compare() + " " + x.begins());
        Talk.hold(x, "1");
        x.longer(0, -1, -1, -1);
        Check.same("the SHELF does not grow with the HAND", "1 true", x.compare() + " " + x.begins());
    }

    private static void letters() {
        Doc.promise(17, "The OCTETS in HAND (none at first) get bytes behind; NONES are left out.", "Returns how many they are then.");
        Doc.promise(18, "The OCTETS in HAND are none any more.", "Returns how many they were.");
        Agenttree x = new Agenttree();
        Check.same("none at first", 0, x.noLetters());
        x.name(1, -1, -1, -1);
        for (int which = 0; which < 32; which++) {
            int[] b = new int[5];
            StringBuilder due = new StringBuilder();
            for (int i = 0; i < 5; i++) {
                b[i] = (which >> i & 1) == 1 ? 'a' + i : -1;
                due.append(b[i] < 0 ? "" : "" + (char) b[i]);
            }
            Check.same("letters() of " + which, due.length(), x.letters(b[0], b[1], b[2], b[3], b[4]));
            x.bind(2, 0);
            Check.same("they are", "0 get 0 0 0, 1='" + due + "'", x.draftText());
            Check.same("noLetters()", due.length(), x.noLetters());
            Check.same("none any more", 0, x.noLetters());
            x.bind(2, 0);
            Check.is("none any more", x.draftText().endsWith(", 1=''"));
            x.draft(0, 0, 0, 0, 0);
        }
    }

    private static void bench() {
        Doc.promise(48, "The row on the BENCH (empty at first) gets bytes behind; NONES are left out.", "Returns how many it has then.");
        Doc.promise(49, "The last bytes on the BENCH go.", "(all, if there are not so many)", "Returns how many it has then.");
        for (int which = 0; which < 32; which++) {
            Agenttree x = new Agenttree();
            int[] b = new int[5];
            for (int i = 0; i < 5; i++) {
                b[i] = (which >> i & 1) == 1 ? new int[] {0, 255, 1, 128, 127}[i] : -1;
            }
            int count = Integer.bitCount(which);
            Check.same("lay() of " + which, count, x.lay(b[0], b[1], b[2], b[3], b[4]));
            x.inject(0);
            int at = 0;
            for (int i = 0; i < 5; i++) {
                if (b[i] >= 0) {
                    Check.same("a byte", b[i], x.byteOf(0, at));
                    at++;
                }
            }
            Check.same("rows", count == 0 ? 0 : 1, x.rows());
            Check.same("cut(2)", Math.max(count - 2, 0), x.cut(2));
            Check.same("lay() behind", Math.max(count - 2, 0) + 1, x.lay(77, -1, -1, -1, -1));
        }
        int[] full = new int[255];
        for (int many : new int[] {1, 2, 128, 254, 255}) {
            Agenttree x = new Agenttree();
            Check.same("cut() of none", 0, x.cut(many));
            Talk.lay(x, full);
            Check.same("cut(" + many + ")", 255 - many, x.cut(many));
            Check.same("cut(255)", 0, x.cut(255));
            Check.same("SUM of no byte", 258, x.sum(0));
        }
    }

    private static void house() {
        Doc.promise(56, "2 rows that came, 3 how often REFUSED was told, 4 how often it was knocked", "Returns that.");
        Agenttree x = new Agenttree();
        for (int what = 0; what <= 4; what++) {
            Check.same("house(" + what + ") at first", 0, x.house(what));
        }
        int[][] due = {{1, 0, 0, 0, 0}, {1, 0, 0, 1, 0}, {2, 0, 1, 1, 0}, {2, 0, 2, 1, 0}, {2, 0, 2, 1, 1}, {3, 0, 2, 1, 1}, {3, 0, 2, 1, 1},
            {3, 1, 2, 1, 1}, {3, 1, 3, 1, 1}};
        for (int step = 0; step < due.length; step++) {
            switch (step) {
                case 0: x.send(0); break;
                case 1: x.replay(0); break;
                case 2: x.pass(0); break;
                case 3: x.pass(0); break;
                case 4: x.knock(); break;
                case 5: x.send(0); break;
                case 6: x.twice(0); break;
                case 7: x.lose(0); break;
                default:
                    x.spoil(0, 0, 0);
                    x.pass(0);
                    break;
            }
            for (int what = 0; what <= 4; what++) {
                Check.same("house(" + what + ") behind the step " + step, due[step][what], x.house(what));
            }
        }
    }

    private static void knocks() {
        Doc.promise(57, "Knocks.", "Returns how often ever, with this.");
        Agenttree x = new Agenttree();
        for (int n = 1; n <= 500; n++) {
            Check.same("knock()", n, x.knock());
        }
        Check.same("how often", 500, x.house(4));
        Check.same("a new one", 1, new Agenttree().knock());
    }

    private static void sound() {
        Doc.promise(58, "Returns whether all of this is so: each row under way without a FAULT is what it is encoded to again (a ciphered SCOPE as it "
                + "stands); each VIEW HAS each NAME of an OBJECT that is there by its FAMILIES gone through in their sequence just if it HAS it by "
                + "the other sequence; going on by NEXT tells, for each USER and CONTEXT, what walk() tells; COUNTERS are 0 to 65535; what is OPEN "
                + "was SENT.");
        Check.is("a new one", new Agenttree().isSound());
        Check.is("a busy one", Face.busy().isSound());
        Check.is("a full one", Face.full().isSound());
        Agenttree x = new Agenttree();
        x.access(0, 0, 0, 3, 3, 3);
        for (int user = 1; user <= 4; user++) {
            x.access(user, 0, 0, -1, -1, -1);
        }
        Check.is("VIEWS without FAMILIES, and none", x.isSound());
        String[] names = {"2.1.1", "2.2.2", "2.3", "2", "3.1.1.1", "4.8.0"};
        for (int i = 0; i < 6; i++) {
            Talk.hold(x, names[i]);
            x.family(3, new int[] {1, 3, 2, 1, 15, 7}[i], i % 2 == 0);
            Check.is("FAMILIES of many kinds, " + x.families(3), x.isSound());
        }
        x.traffic(1, 65535, 65535);
        x.traffic(1, 1, 2);
        Check.is("COUNTERS that went on at 0", x.isSound());
        x.target(0, true, 0, 1, 0, true);
        x.restart();
        x.send(0);
        x.lose(0);
        Check.is("OPEN ones", x.isSound());
    }

    private static void digests() {
        Doc.promise(59, "Computes a checksum. A number d starts with 7684; then d becomes d * 31 + v, which wraps around as a 64-bit integer, for each "
                + "v in this order (of a text the codes of its signs): ofAgent() of 0 to 9; CONTEXT by CONTEXT, OBJECT by OBJECT that is there by ORDER, "
                + "its NAME and VALUE as texts; hand(); USER by USER ofUser() of 0 to 10, and walk() of both CONTEXTS; VIEW by VIEW families(); TARGET "
                + "by TARGET ofTarget() of 0 to 4; MANAGER by MANAGER ofManager() of 0 to 11, answer(), each told(); draftText(); row by row ofRow() "
                + "of 0 to 4, then its bytes; fault(), read(); house() of 0 to 4; 1 if isSound(), otherwise 0.", "Returns d.");
        Check.same("a new one", Digests.of(new Agenttree()), new Agenttree().digest());
        Agenttree x = Face.busy();
        Agenttree y = Face.busy();
        x.passAll(40);
        y.passAll(40);
        Check.same("told, and answered", Digests.of(x), y.digest());
        Agenttree z = underWay();
        long d = z.digest();
        Check.same("rows under way", Digests.of(underWay()), d);
        Check.same("it changes nothing", d, z.digest());
        Check.is("nor isSound()", z.isSound());
        Check.same("nor isSound()", d, z.digest());
    }

    private static Agenttree underWay() {
        Agenttree x = new Agenttree();
        x.tick(2);
        x.send(0);
        x.tick(1);
        x.send(1);
        x.pass(0);
        x.spoil(0, 0, 255);
        x.twice(1);
        x.replay(0);
        return x;
    }

    /** Each of these changes the digest; what only asks does not. */
    private static void digestOfEachCall() {
        Object[][] changes = {{"tick", 1}, {"restart"}, {"port", 1, false}, {"traffic", 1, 1, 0}, {"traffic", 1, 0, 1}, {"note", 0, 1, 1, true},
            {"most", 254}, {"name", 9, -1, -1, -1}, {"longer", 9, -1, -1, -1}, {"user", 4, true, 1004, 2}, {"user", 4, false, 1, 2},
            {"user", 4, false, 1004, 1}, {"access", 4, 1, 1, -1, -1, -1}, {"access", 4, 1, 0, 1, -1, -1}, {"access", 4, 1, 0, -1, 1, -1},
            {"access", 4, 1, 0, -1, -1, 1}, {"family", 3, 0, true}, {"target", 1, true, 0, 0, 0, false}, {"target", 1, false, 1, 0, 0, false},
            {"target", 1, false, 0, 1, 0, false}, {"target", 1, false, 0, 0, 1, false}, {"target", 1, false, 0, 0, 0, true},
            {"speak", 0, 1, 1000}, {"speak", 0, 0, 1001}, {"forget", 0}, {"draft", 0, 1, 0, 0, 0}, {"bind", 0, 0}, {"send", 0}, {"pass", 0},
            {"passAll", 1}, {"lose", 0}, {"twice", 0}, {"spoil", 0, 0, 0}, {"replay", 2}, {"replay", 0}, {"cut", 1},
            {"fetch", 0}, {"cipher", 1, 1, 1}, {"inject", 0}, {"knock"}};
        Object[][] questions = {{"ofAgent", 0}, {"value", 0}, {"walk", 0, 0}, {"hand"}, {"shelve"}, {"compare"}, {"begins"},
            {"letters", 1, -1, -1, -1, -1}, {"noLetters"}, {"ofUser", 0, 0}, {"families", 0}, {"has", 0}, {"ofTarget", 0, 0}, {"draftText"},
            {"answer", 0}, {"ofManager", 0, 0}, {"told", 1, 0}, {"rows"}, {"ofRow", 0, 3}, {"rowText", 0}, {"byteOf", 0, 0}, {"record", 0, 0},
            {"fault"}, {"read"}, {"sum", 1}, {"house", 0}, {"isSound"}, {"digest"}, {"longer", -1, -1, -1, -1}, {"lay", -1, -1, -1, -1, -1},
            {"port", 1, true}, {"traffic", 1, 0, 0}, {"note", 1, 3, 4, true}, {"spoil", 0, 0, 48}};
        for (int i = 0; i < changes.length + questions.length; i++) {
            Object[] call = i < changes.length ? changes[i] : questions[i - changes.length];
            Agenttree x = Face.busy();
            long before = x.digest();
            Object got = Face.call(x, (String) call[0], java.util.Arrays.copyOfRange(call, 1, call.length));
            Check.is(call[0] + " throws nothing", !(got instanceof Class));
            Check.same(java.util.Arrays.toString(call) + " changes the digest", i < changes.length, x.digest() != before);
        }
    }
}
