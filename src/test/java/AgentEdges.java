import java.util.Arrays;

/** Section 5 of the document, up to the PDU: what bars a row, one cause behind another, and each at its edge. */
final class AgentEdges {
    private static final int LEAST = -2147483648;
    private static final int GREATEST = 2147483647;
    private static final int[] SCOPE = Rows.scope(0, Rows.pdu(0, 44, 0, 0, Rows.binding("1.2.0", Rows.empty(5))));

    private AgentEdges() {
    }

    static void run() {
        agentAtFirst();
        rowsThatCame();
        faults();
        engines();
        users();
        highestLevels();
        sums();
        boots();
        times();
        takenForThirtyTicks();
        takenByUserAndId();
        takenByOthersLater();
        takenWhateverIsInIt();
        takenInThisBoot();
        manyTaken();
        deciphering();
        oneCauseBehindAnother();
        reports();
        silentOnes();
    }

    /** A row comes from the MANAGER 1; what is SENT then, which is LOST. */
    private static String sent(Agenttree x, int[] row) {
        Talk.come(x, 1, row);
        StringBuilder sent = new StringBuilder();
        while (x.rows() > 0) {
            Check.same("from the agent to whom it came from", "2 1", x.ofRow(0, 0) + " " + x.ofRow(0, 1));
            sent.append(x.rowText(0)).append("; ");
            x.lose(0);
        }
        return sent.toString();
    }

    private static String come(Agenttree x, int[] row) {
        return sent(x, row) + Talk.counters(x);
    }

    private static String report(int id, int user, int which, int n, String counters) {
        return id + " 0 7 1 0 " + user + " -1 0: 0 report 0 0 0, 4." + which + ".0=c" + n + "; " + counters;
    }

    private static String response(int id, int user, String counters) {
        return id + " 0 7 1 0 " + user + " -1 0: 0 response 44 0 0, 1.2.0=0; " + counters;
    }

    private static int[] sealed(int id, int level, int boots, int time) {
        return Rows.sealed(id, level, 7, boots, time, 0, 1000, 0, SCOPE);
    }

    private static boolean isLet(Agenttree x, int[] row) {
        String sent = sent(x, row);
        return sent.contains(" response 44 0 0, 1.2.0=0;") || sent.contains(" 2 7 ");
    }

    private static void agentAtFirst() {
        Doc.says("The agent has an ENGINE (7), BOOTS (1 at first), TIME (0 at first; one more with each TICK).",
                "COUNTERS: 4.1.0 rows that came, 4.2.0 with a FAULT, 4.3.0 of another ENGINE, 4.4.0 of no known USER, 4.5.0 above "
                + "HIGHEST, 4.6.0 with a wrong SUM, 4.7.0 not in time, or TAKEN before, 4.8.0 not to be deciphered.");
        Doc.promise(8, "Returns that.");
        Agenttree x = new Agenttree();
        int[] due = {0, 1, 0, 255, 31, 2, 0, 1000, 0, 0};
        for (int what = 0; what <= 9; what++) {
            Check.same("ofAgent(" + what + ") at first", due[what], x.ofAgent(what));
        }
        Check.same("the COUNTERS at first", "0 0 0 0 0 0 0 0", Talk.counters(x));
        for (int many : new int[] {1, 2, 40}) {
            int time = x.ofAgent(2);
            x.tick(many);
            Check.same("TIME", time + many, x.ofAgent(2));
        }
        Check.same("what a row of the agent tells", "9 0 7 1 43 0 -1 0: 0 response 44 0 0, 1.2.0=0; 1 0 0 0 0 0 0 0",
                come(x, Rows.plain(9, 0, SCOPE)));
    }

    private static void rowsThatCame() {
        Doc.says("A row comes: 4.1.0 is one more.");
        Agenttree x = new Agenttree();
        int[][] rows = {{0}, Rows.plain(1, 9, SCOPE), Rows.plain(1, 0, SCOPE), sealed(1, 1, 1, 0), sealed(1, 1, 1, 0),
            sealed(2, 1, 9, 0), Rows.sealed(3, 1, 7, 1, 0, 0, 1, 0, SCOPE), Rows.plain(1, 0, Rows.scope(0, Rows.pdu(5, 1, 0, 0)))};
        for (int i = 0; i < rows.length; i++) {
            Talk.come(x, 0, rows[i]);
            Check.same("4.1.0", "c" + (i + 1), Talk.value(x, 0, "4.1.0"));
        }
        Agenttree y = new Agenttree();
        Talk.seeAll(y);
        Talk.come(y, 0, Rows.plain(1, 0, Rows.scope(0, Rows.pdu(0, 1, 0, 0, Rows.binding("4.1.0", Rows.empty(5))))));
        Check.is("the row that asks counts, too", y.rowText(0).endsWith("4.1.0=c1"));
    }

    private static void faults() {
        Doc.says("Then, the first of these that applies: a FAULT: 4.2.0 one more, nothing is SENT.");
        Agenttree x = new Agenttree();
        Check.same("a byte", "1 1 0 0 0 0 0 0", come(x, Rows.of(48)));
        Check.same("a byte behind", "2 2 0 0 0 0 0 0", come(x, Rows.join(Rows.plain(1, 0, SCOPE), Rows.of(0))));
        int[] lacking = Arrays.copyOf(Rows.plain(1, 0, SCOPE), 40);
        Check.same("bytes that lack", "3 3 0 0 0 0 0 0", come(x, lacking));
        Check.same("a LEVEL 3", "4 4 0 0 0 0 0 0", come(x, Rows.list(Rows.integer(3), Rows.integer(1), Rows.integer(3))));
        Check.same("none", response(1, 0, "5 4 0 0 0 0 0 0"), come(x, Rows.plain(1, 0, SCOPE)));
    }

    private static void engines() {
        Doc.says("ENGINE is not 7: 4.3.0 one more, a REPORT of that.");
        Agenttree x = new Agenttree();
        int n = 0;
        for (int engine : new int[] {6, 8, 0, -7, 263, LEAST, GREATEST}) {
            n++;
            Check.same("ENGINE " + engine, report(5, 0, 3, n, n + " 0 " + n + " 0 0 0 0 0"), come(x, Rows.open(5, engine, 1, 0, 0, SCOPE)));
        }
        Check.same("ENGINE 7", response(5, 0, "8 0 7 0 0 0 0 0"), come(x, Rows.open(5, 7, 1, 0, 0, SCOPE)));
    }

    private static void users() {
        Doc.says("USER not 0 to 4, or not known: 4.4.0, a REPORT.");
        for (int user : new int[] {-1, 5, 6, 256, LEAST, GREATEST, 2, 3, 4}) {
            Agenttree x = new Agenttree();
            for (int n = 1; n <= 2; n++) {
                Check.same("USER " + user, report(5, user, 4, n, n + " 0 0 " + n + " 0 0 0 0"), come(x, Rows.plain(5, user, SCOPE)));
            }
        }
        for (int user = 0; user <= 4; user++) {
            Agenttree x = new Agenttree();
            x.user(user, true, 1000, 2);
            Check.same("USER " + user, response(5, user, "1 0 0 0 0 0 0 0"), come(x, Rows.plain(5, user, SCOPE)));
            x.user(user, false, 1000, 2);
            Check.same("USER " + user + ", not known", report(5, user, 4, 1, "2 0 0 1 0 0 0 0"), come(x, Rows.plain(5, user, SCOPE)));
        }
    }

    private static void highestLevels() {
        Doc.says("LEVEL above its HIGHEST: 4.5.0, a REPORT.");
        for (int highest = 0; highest <= 2; highest++) {
            for (int level = 0; level <= 2; level++) {
                Agenttree x = new Agenttree();
                x.user(0, true, 1000, highest);
                int[] row = level == 0 ? Rows.plain(5, 0, SCOPE) : sealed(5, level, 1, 0);
                String got = come(x, row);
                if (level > highest) {
                    Check.same("LEVEL " + level + " above " + highest, report(5, 0, 5, 1, "1 0 0 0 1 0 0 0"), got);
                } else {
                    Check.is("LEVEL " + level + " with HIGHEST " + highest, got.endsWith("; 1 0 0 0 0 0 0 0"));
                }
            }
        }
    }

    private static void sums() {
        Doc.says("Of the LEVELS 1 and 2: SUM is not that by the USER's KEY: 4.6.0, a REPORT");
        for (int level = 1; level <= 2; level++) {
            int[] row = sealed(5, level, 1, 0);
            for (int place : new int[] {25, 26}) {
                for (int bit : new int[] {1, 128}) {
                    int[] wrong = row.clone();
                    wrong[place] ^= bit;
                    Agenttree x = new Agenttree();
                    Check.same("another SUM", report(5, 0, 6, 1, "1 0 0 0 0 1 0 0"), come(x, wrong));
                    Check.same("it is not TAKEN", 0, x.ofAgent(9));
                    Check.is("a right one", come(x, row).endsWith("; 2 0 0 0 0 1 0 0"));
                }
            }
            Agenttree y = new Agenttree();
            Check.same("a SUM by another USER's KEY", report(5, 0, 6, 1, "1 0 0 0 0 1 0 0"),
                    come(y, Rows.sealed(5, level, 7, 1, 0, 0, 1001, 0, SCOPE)));
            int[] other = row.clone();
            other[7] ^= 1;
            Check.same("another ID than it was made for", report(4, 0, 6, 2, "2 0 0 0 0 2 0 0"), come(y, other));
        }
    }

    /** A REPORT of the LEVEL 1, with its bytes. */
    private static void late(Agenttree x, String what, int[] row, int id) {
        String before = Talk.value(x, 0, "4.7.0");
        int n = Integer.parseInt(before.substring(1)) + 1;
        int taken = x.ofAgent(9);
        Talk.come(x, 1, row);
        int[] scope = Rows.scope(0, Rows.pdu(7, 0, 0, 0, Rows.binding("4.7.0", Rows.number(65, n))));
        Check.same(what, Arrays.toString(Rows.sealed(id, 1, 7, x.ofAgent(1), x.ofAgent(2), 0, 1000, 0, scope)),
                x.rows() == 1 ? GuardTests.bytes(x) : "nothing");
        Check.same("it is not TAKEN", taken, x.ofAgent(9));
        while (x.rows() > 0) {
            x.lose(0);
        }
    }

    private static void boots() {
        Doc.says("BOOTS are not its own,");
        for (int level = 1; level <= 2; level++) {
            for (int own = 1; own <= 3; own++) {
                for (int boots : new int[] {own - 1, own + 1, 0, -own, LEAST, GREATEST}) {
                    Agenttree x = new Agenttree();
                    for (int i = 1; i < own; i++) {
                        x.restart();
                    }
                    late(x, "BOOTS " + boots + " where " + own + " are due", sealed(5, level, boots, 0), 5);
                    Check.is("BOOTS " + own, isLet(x, sealed(5, level, own, 0)));
                }
            }
        }
        Agenttree y = new Agenttree();
        Check.same("BOOTS of the LEVEL 0 are not looked at", response(5, 0, "1 0 0 0 0 0 0 0"), come(y, Rows.open(5, 7, 9, 0, 0, SCOPE)));
    }

    private static void times() {
        Doc.says("or TIME is more than 15 away from its own (by the true difference): 4.7.0, a REPORT, this one of the LEVEL 1",
                "(Of the LEVEL 1 its SUM is by the KEY of that USER.)");
        for (int level = 1; level <= 2; level++) {
            for (int own : new int[] {0, 1, 15, 16, 40, 80}) {
                Agenttree x = new Agenttree();
                x.tick(own == 0 ? 1 : Math.min(own, 40));
                if (own == 0) {
                    x.restart();
                } else if (own > 40) {
                    x.tick(own - 40);
                }
                int b = x.ofAgent(1);
                Check.is("15 ahead", isLet(x, sealed(1, level, b, own + 15)));
                Check.is("15 behind", isLet(x, sealed(2, level, b, own - 15)));
                Check.is("the same", isLet(x, sealed(3, level, b, own)));
                late(x, "16 ahead of " + own, sealed(4, level, b, own + 16), 4);
                late(x, "16 behind " + own, sealed(5, level, b, own - 16), 5);
                late(x, "far behind " + own, sealed(6, level, b, LEAST), 6);
                late(x, "far ahead of " + own, sealed(7, level, b, GREATEST), 7);
            }
        }
        Agenttree y = new Agenttree();
        Check.same("TIME of the LEVEL 0 is not looked at", response(5, 0, "1 0 0 0 0 0 0 0"), come(y, Rows.open(5, 7, 1, 99, 0, SCOPE)));
    }

    private static void takenForThirtyTicks() {
        Doc.says("a row of this USER with this ID was TAKEN in this BOOT not more than 30 TICKS ago: 4.7.0, nothing is SENT");
        Doc.promise(8, "9 how many rows were TAKEN in this BOOT not more than 30 TICKS ago");
        for (int first : new int[] {0, 1, 10, 40}) {
            for (int later : new int[] {0, 1, 15, 16, 29, 30, 31, 32}) {
                Agenttree x = new Agenttree();
                if (first > 0) {
                    x.tick(first);
                }
                Check.is("the first time", isLet(x, sealed(5, 1, 1, first)));
                Check.same("TAKEN", 1, x.ofAgent(9));
                if (later > 0) {
                    x.tick(later);
                }
                Check.same("TAKEN " + later + " TICKS ago", later <= 30 ? 1 : 0, x.ofAgent(9));
                int[] again = sealed(5, 1, 1, first + later);
                if (later <= 30) {
                    Check.same(later + " TICKS later", "2 0 0 0 0 0 1 0", come(x, again));
                    // That does not TAKE it anew.
                    x.tick(31 - later);
                    Check.is("31 TICKS later", isLet(x, sealed(5, 1, 1, first + 31)));
                } else {
                    Check.is(later + " TICKS later", isLet(x, again));
                }
                Check.same("TAKEN anew", 1, x.ofAgent(9));
            }
        }
    }

    private static void takenByUserAndId() {
        Agenttree x = new Agenttree();
        int[] ids = {5, -5, 0, LEAST, GREATEST, 261};
        for (int i = 0; i < ids.length; i++) {
            Check.is("the ID " + ids[i], isLet(x, sealed(ids[i], 1, 1, 0)));
            Check.same("TAKEN", 2 * i + 1, x.ofAgent(9));
            Check.is("of another USER", isLet(x, Rows.sealed(ids[i], 1, 7, 1, 0, 1, 1001, 0, SCOPE)));
            Check.same("TAKEN", 2 * i + 2, x.ofAgent(9));
        }
        for (int id : ids) {
            Check.same("again", "", sent(x, sealed(id, 1, 1, 0)));
        }
        Check.same("4.7.0", "c6", Talk.value(x, 0, "4.7.0"));
        Check.same("TAKEN", 12, x.ofAgent(9));
        Agenttree y = new Agenttree();
        sent(y, sealed(5, 1, 1, 0));
        Check.same("again with another TIME", "2 0 0 0 0 0 1 0", come(y, sealed(5, 1, 1, 3)));
        Check.same("again of another LEVEL", "3 0 0 0 0 0 2 0", come(y, sealed(5, 2, 1, 0)));
        Check.same("of the LEVEL 0 it is not looked at", response(5, 0, "4 0 0 0 0 0 2 0"), come(y, Rows.plain(5, 0, SCOPE)));
        Check.same("nor TAKEN", 1, y.ofAgent(9));
        sent(y, sealed(6, 2, 1, 0));
        Check.same("one of the LEVEL 2, again of the LEVEL 1", "6 0 0 0 0 0 3 0", come(y, sealed(6, 1, 1, 0)));
    }

    /** As the first ones are TAKEN no more, each that stays is of its own USER and ID. */
    private static void takenByOthersLater() {
        int[] users = {0, 0, 1, 0, 1, 1};
        int[] ids = {5, 6, 5, 7, 8, 6};
        for (int gone = 0; gone <= 6; gone++) {
            for (int user = 0; user < 2; user++) {
                Agenttree x = new Agenttree();
                for (int i = 0; i < 6; i++) {
                    Talk.come(x, 0, Rows.sealed(ids[i], 1, 7, 1, i, users[i], 1000 + users[i], 0, SCOPE));
                    x.tick(1);
                }
                x.tick(24 + gone);
                int now = x.ofAgent(0);
                int due = 0;
                for (int i = 0; i < 6; i++) {
                    due += now - i <= 30 ? 1 : 0;
                }
                Check.same("TAKEN at " + now, due, x.ofAgent(9));
                while (x.rows() > 0) {
                    x.lose(0);
                }
                for (int id = 5; id <= 8; id++) {
                    boolean isTaken = false;
                    for (int i = 0; i < 6; i++) {
                        isTaken |= users[i] == user && ids[i] == id && now - i <= 30;
                    }
                    Check.same("the ID " + id + " of the USER " + user + " at " + now, !isTaken,
                            isLet(x, Rows.sealed(id, 1, 7, 1, now, user, 1000 + user, 0, SCOPE)));
                }
            }
        }
    }

    private static void takenWhateverIsInIt() {
        Doc.says("otherwise it is TAKEN (whatever is in it).");
        for (int kind = 0; kind <= 7; kind++) {
            for (int level = 0; level <= 2; level++) {
                Agenttree x = new Agenttree();
                int[] scope = Rows.scope(99, Rows.pdu(kind, 1, 1, 1));
                come(x, level == 0 ? Rows.plain(5, 0, scope) : Rows.sealed(5, level, 7, 1, 0, 0, 1000, 0, scope));
                Check.same("the KIND " + kind + " of the LEVEL " + level, level == 0 ? 0 : 1, x.ofAgent(9));
            }
        }
        Agenttree y = new Agenttree();
        come(y, Rows.sealed(5, 2, 7, 1, 0, 0, 1000, 0, Rows.of(1, 2, 3)));
        Check.same("what is not deciphered", 1, y.ofAgent(9));
        Check.same("it does not come again", "2 0 0 0 0 0 1 1", come(y, sealed(5, 1, 1, 0)));
    }

    private static void takenInThisBoot() {
        Doc.promise(3, "BOOTS are one more, TIME is 0, what was TAKEN is forgotten, no INFORM is OPEN; then NOTICES. (All else stays.)");
        Agenttree x = new Agenttree();
        x.tick(3);
        Check.is("a row", isLet(x, sealed(5, 1, 1, 3)));
        x.restart();
        Check.same("TAKEN is forgotten", 0, x.ofAgent(9));
        late(x, "of the BOOT before", sealed(5, 1, 1, 3), 5);
        Check.is("the same ID in this BOOT", isLet(x, sealed(5, 1, 2, 3)));
        Check.same("TAKEN", 1, x.ofAgent(9));
        x.tick(30);
        Check.same("TAKEN 30 TICKS ago", 1, x.ofAgent(9));
        x.tick(1);
        Check.same("TAKEN 31 TICKS ago", 0, x.ofAgent(9));
    }

    /** Many that were TAKEN one TICK behind the other: those of the last 31 are not let, all others are. */
    private static void manyTaken() {
        Agenttree x = new Agenttree();
        Talk.learn(x, 0);
        x.draft(0, 1, 0, 0, 0);
        for (int tick = 0; tick < 45; tick++) {
            for (int i = 0; i < 2; i++) {
                x.send(0);
            }
            x.passAll(2);
            Check.same("TAKEN", Math.min(2 * tick + 2, 62), x.ofAgent(9));
            x.lose(0);
            x.lose(0);
            x.tick(1);
        }
        // At 45: of the TICKS 15 to 44, with the IDs 2 * (2 * TICK + 1) and on.
        Check.same("TAKEN", 60, x.ofAgent(9));
        int[] ids = {62, 64, 60, 58, 178, 180, 2, 4, 182};
        boolean[] isTaken = {true, true, false, false, true, true, false, false, false};
        for (int i = 0; i < ids.length; i++) {
            Check.same("the ID " + ids[i], !isTaken[i], isLet(x, sealed(ids[i], 1, 1, 45)));
        }
        Check.same("TAKEN", 65, x.ofAgent(9));
    }

    private static void deciphering() {
        Doc.says("with a FAULT: 4.8.0, a REPORT.");
        int[][] scopes = {{}, {0}, Rows.join(SCOPE, Rows.of(0)), Arrays.copyOf(SCOPE, SCOPE.length - 1), Rows.plain(1, 0, SCOPE)};
        for (int i = 0; i < scopes.length; i++) {
            Agenttree x = new Agenttree();
            Check.same("a ciphered FAULT", report(5, 0, 8, 1, "1 0 0 0 0 0 0 1"),
                    come(x, Rows.sealed(5, 2, 7, 1, 0, 0, 1000, 0, scopes[i])));
            Check.same("of the LEVEL 0: nothing of the LEVEL 2 was SENT", 0, x.ofAgent(8));
        }
        for (int salt : new int[] {0, 1, 127, 128, 255}) {
            Agenttree x = new Agenttree();
            Check.is("SALT " + salt, isLet(x, Rows.sealed(5, 2, 7, 1, 0, 0, 1000, salt, SCOPE)));
            Check.same("of the LEVEL 2", 1, x.ofAgent(8));
        }
    }

    /** Each row has one cause and all that come behind it: the first one counts, and no other. */
    private static void oneCauseBehindAnother() {
        int[] garbage = {1, 2, 3};
        int[][] rows = {
            Rows.join(Rows.sealed(5, 2, 8, 9, 99, 4, 7, 0, garbage), Rows.of(0)),
            Rows.sealed(5, 2, 8, 9, 99, 4, 7, 0, garbage),
            Rows.sealed(5, 2, 7, 9, 99, 4, 7, 0, garbage),
            Rows.sealed(5, 2, 7, 9, 99, 1, 7, 0, garbage),
            Rows.sealed(5, 2, 7, 9, 99, 0, 7, 0, garbage),
            Rows.sealed(5, 2, 7, 9, 99, 0, 1000, 0, garbage),
            Rows.sealed(5, 2, 7, 1, 0, 0, 1000, 0, garbage),
            Rows.sealed(6, 2, 7, 1, 0, 0, 1000, 0, garbage),
        };
        int[] counters = {2, 3, 4, 5, 6, 7, 7, 8};
        for (int i = 0; i < rows.length; i++) {
            Agenttree x = new Agenttree();
            x.user(1, true, 1001, 1);
            x.user(4, false, 1004, 0);
            come(x, sealed(5, 1, 1, 0));
            String got = come(x, rows[i]);
            int[] due = {2, 0, 0, 0, 0, 0, 0, 0};
            due[counters[i] - 1]++;
            Check.is("the cause " + (i + 1) + ": " + got, got.endsWith(Arrays.toString(due).replaceAll("[\\[\\],]", "")));
            boolean isSilent = i == 0 || i == 6;
            Check.same("a REPORT of the cause " + (i + 1), !isSilent, got.contains("report 0 0 0, 4." + counters[i] + ".0=c1; "));
        }
    }

    private static void reports() {
        Doc.says("REPORT: to whom it came from, of the LEVEL 0 (if no other one is said), with the ID of the row, ENGINE, BOOTS and "
                + "TIME of the agent, the USER of the row, CONTEXT 0, REQUEST, STATUS and INDEX 0, and one BINDING: the COUNTER that "
                + "became one more, with its VALUE then.");
        int[] far = Rows.scope(77, Rows.pdu(3, 55, 66, 88, Rows.binding("1.2.0", Rows.integer(1))));
        for (int manager = 0; manager < 2; manager++) {
            for (int id : new int[] {LEAST, -1, 128, GREATEST}) {
                Agenttree x = new Agenttree();
                x.restart();
                for (int i = 0; i < 4; i++) {
                    x.tick(32);
                }
                for (int n = 1; n <= 2; n++) {
                    Talk.come(x, manager, Rows.sealed(id, 2, 6, -3, 7, 3, 5, 200, far));
                    int[] scope = Rows.scope(0, Rows.pdu(7, 0, 0, 0, Rows.binding("4.3.0", Rows.number(65, n))));
                    Check.same("its bytes", Arrays.toString(Rows.open(id, 7, 2, 128, 3, scope)), GuardTests.bytes(x));
                    Check.same("to whom it came from", manager, x.ofRow(0, 1));
                    x.lose(0);
                }
            }
        }
        for (int kind = 0; kind <= 7; kind++) {
            Agenttree y = new Agenttree();
            Check.same("whatever the PDU is, " + kind, report(9, 3, 4, 1, "1 0 0 1 0 0 0 0"),
                    come(y, Rows.plain(9, 3, Rows.scope(0, Rows.pdu(kind, 1, 0, 0)))));
        }
    }

    private static void silentOnes() {
        Doc.says("Then by the PDU.", "TRAP, REPORT, INFORM: nothing.", "RESPONSE: section 6.");
        for (int kind : new int[] {5, 7, 6, 2}) {
            for (int level = 0; level <= 2; level++) {
                Agenttree x = new Agenttree();
                int[] scope = Rows.scope(0, Rows.pdu(kind, 5, 0, 0, Rows.binding("1.2.0", Rows.integer(7))));
                String got = come(x, level == 0 ? Rows.plain(5, 0, scope) : Rows.sealed(5, level, 7, 1, 0, 0, 1000, 0, scope));
                Check.same("the KIND " + kind + " of the LEVEL " + level, "1 0 0 0 0 0 0 0", got);
                Check.same("nothing is SENT", 0, x.house(0));
                Check.same("nothing is set", "0", Talk.value(x, 0, "1.2.0"));
            }
        }
    }
}
