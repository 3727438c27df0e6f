import java.util.Arrays;

/** Section 6 of the document: which NOTICES are SENT, when again, and what ends them. */
final class NoticeEdges {
    private NoticeEdges() {
    }

    static void run() {
        targetsAtFirst();
        bytesOfNotices();
        levelsAndLeasts();
        usersAndViews();
        otherStates();
        targetByTarget();
        portByPort();
        setsOfOtherThings();
        beginningAnew();
        numbers();
        sentAgain();
        sentAgainAsTheFirstTime();
        sentAgainByTheKeyThen();
        againTickByTick();
        endedByResponses();
        endedByOthersNot();
        endedByTicks();
        endedAnew();
        lostOnes();
    }

    private static Agenttree open() {
        Agenttree x = new Agenttree();
        Talk.seeAll(x);
        return x;
    }

    /** All rows under way as texts, which are LOST then. */
    private static String all(Agenttree x) {
        StringBuilder text = new StringBuilder();
        while (x.rows() > 0) {
            text.append(text.length() == 0 ? "" : "; ").append(x.rowText(0)).append(" to ").append(x.ofRow(0, 1));
            Check.same("from the agent", 2, x.ofRow(0, 0));
            x.lose(0);
        }
        return text.toString();
    }

    private static String port(int number, String head, int user, String kind, int ticks, int p, int state, int to) {
        return number + " 0 7 " + head + " " + user + " -1 0: 0 " + kind + " " + number + " 0 0, 1.3.0=t" + ticks + ", 2.1." + p + "=" + p
                + ", 2.3." + p + "=" + state + " to " + to;
    }

    private static void targetsAtFirst() {
        Doc.says("TARGETS 0 to 3, each on or off (at first): a MANAGER, a USER, a LEVEL, and whether by INFORM or by TRAP.");
        Doc.promise(26, "Returns 1 if it was on, otherwise 0.");
        Doc.promise(27, "Returns that.", "(1 to 4 are 0 at first)");
        Agenttree x = open();
        for (int target = 0; target < 4; target++) {
            for (int what = 0; what <= 4; what++) {
                Check.same("at first: ofTarget(" + target + ", " + what + ")", 0, x.ofTarget(target, what));
            }
        }
        x.restart();
        x.port(1, false);
        Check.same("nothing is SENT", "", all(x));
        for (int target = 0; target < 4; target++) {
            Check.same("it was off", 0, x.target(target, true, 1, 4, 2, true));
            int[] due = {1, 1, 4, 2, 1};
            for (int other = 0; other < 4; other++) {
                for (int what = 0; what <= 4; what++) {
                    Check.same("ofTarget(" + other + ", " + what + ")", other <= target ? due[what] : 0, x.ofTarget(other, what));
                }
            }
        }
        for (int target = 0; target < 4; target++) {
            Check.same("it was on", 1, x.target(target, true, 0, 0, 0, false));
            Check.same("it was on still", 1, x.target(target, false, 1, 3, 1, true));
            Check.same("it was off", 0, x.target(target, false, 1, 3, 1, true));
            Check.same("off", 0, x.ofTarget(target, 0));
            Check.same("the rest stands", "1 3 1 1", x.ofTarget(target, 1) + " " + x.ofTarget(target, 2) + " " + x.ofTarget(target, 3)
                    + " " + x.ofTarget(target, 4));
        }
    }

    private static int[] scope(int kind, int number, int time, int p, int state) {
        return Rows.scope(0, Rows.pdu(kind, number, 0, 0, Rows.binding("1.3.0", Rows.number(67, time)),
                Rows.binding("2.1." + p, Rows.integer(p)), Rows.binding("2.3." + p, Rows.integer(state))));
    }

    private static void bytesOfNotices() {
        Doc.says("It is SENT to that MANAGER with ID and REQUEST both its number (NOTICES that are SENT are numbered from 1001 on), ENGINE, "
                + "BOOTS and TIME of the agent, that USER and LEVEL, CONTEXT 0, STATUS and INDEX 0.");
        for (int level = 0; level <= 2; level++) {
            for (int isInform = 0; isInform < 2; isInform++) {
                Agenttree x = open();
                x.restart();
                x.tick(40);
                x.user(3, true, 9999, 2);
                x.target(2, true, 1, 3, level, isInform == 1);
                x.port(4, false);
                x.port(4, true);
                for (int i = 0; i < 2; i++) {
                    int[] scope = scope(5 + isInform, 1001 + i, 40, 4, 2 - i);
                    int[] due = level == 0 ? Rows.open(1001 + i, 7, 2, 40, 3, scope)
                            : Rows.sealed(1001 + i, level, 7, 2, 40, 3, 9999, i, scope);
                    Check.same("its bytes", Arrays.toString(due), GuardTests.bytes(x));
                    Check.same("from, to and when", "2 1 40", x.ofRow(0, 0) + " " + x.ofRow(0, 1) + " " + x.ofRow(0, 4));
                    x.lose(0);
                }
                Check.same("OPEN", 2 * isInform, x.ofAgent(6));
                Check.same("the last one", 1002, x.ofAgent(7));
                Check.same("of the LEVEL 2", level == 2 ? 2 : 0, x.ofAgent(8));
            }
        }
    }

    private static void levelsAndLeasts() {
        Doc.says("the LEVEL is above its HIGHEST or below its LEAST of the CONTEXT 0,");
        for (int level = 0; level <= 2; level++) {
            for (int highest = 0; highest <= 2; highest++) {
                for (int least = 0; least <= 2; least++) {
                    Agenttree x = open();
                    x.user(0, true, 1000, highest);
                    x.access(0, 0, least, -1, -1, 0);
                    x.access(0, 1, 2 - least, -1, -1, -1);
                    x.target(0, true, 0, 0, level, true);
                    x.port(1, false);
                    boolean isSent = level <= highest && level >= least;
                    Check.same("LEVEL " + level + ", HIGHEST " + highest + ", LEAST " + least, isSent ? 1 : 0, x.rows());
                    Check.same("the number of the last", isSent ? 1001 : 1000, x.ofAgent(7));
                    Check.same("OPEN", isSent ? 1 : 0, x.ofAgent(6));
                    Check.same("SENT", isSent ? 1 : 0, x.house(0));
                }
            }
        }
    }

    private static void usersAndViews() {
        Doc.says("It is not SENT, if the USER is not known,", "or its NOTE VIEW there is NONE or has not all these NAMES.");
        for (int user = 0; user <= 4; user++) {
            Agenttree x = open();
            x.target(0, true, 0, user, 0, false);
            x.port(1, false);
            Check.same("the USER " + user, user < 2 ? 1 : 0, x.rows());
            x.user(user, user >= 2, 5, 0);
            x.port(1, true);
            Check.same("known or not, the other way", 1, x.rows());
        }
        for (int view = -1; view < 4; view++) {
            Agenttree x = open();
            x.access(0, 0, 0, -1, -1, view);
            x.access(0, 1, 0, 0, 0, -1);
            x.target(0, true, 0, 0, 0, false);
            x.port(1, false);
            x.restart();
            Check.same("the NOTE VIEW " + view, view == 0 ? 2 : 0, x.rows());
        }
        String[] names = {"1.3.0", "2.1.3", "2.3.3"};
        for (int which = 0; which < 8; which++) {
            Agenttree x = new Agenttree();
            x.access(0, 0, 0, 0, 0, 2);
            for (int i = 0; i < 3; i++) {
                if ((which >> i & 1) == 1) {
                    Talk.hold(x, names[i]);
                    x.family(2, 0, true);
                }
            }
            x.target(0, true, 0, 0, 0, false);
            x.port(3, false);
            Check.same("a VIEW with " + which + " of a PORT's three", which == 7 ? 1 : 0, x.rows());
            x.port(2, false);
            Check.same("another PORT's are others", which == 7 ? 1 : 0, x.rows());
            x.restart();
            Check.same("for a BOOT just the first one", (which == 7 ? 1 : 0) + (which & 1), x.rows());
        }
    }

    private static void otherStates() {
        Doc.says("As the state of a PORT becomes another one (from outside, or by a SET");
        Doc.promise(4, "Returns 1 if it was another one (NOTICES are SENT then), otherwise 0.");
        for (int p = 1; p <= 4; p++) {
            Agenttree x = open();
            x.target(0, true, 0, 0, 0, false);
            Check.same("up already", 0, x.port(p, true));
            Check.same("nothing is SENT", "", all(x));
            Check.same("down", 1, x.port(p, false));
            Check.same("a NOTICE", port(1001, "1 0", 0, "trap", 0, p, 2, 0), all(x));
            Check.same("down already", 0, x.port(p, false));
            Check.same("nothing is SENT", "", all(x));
            Check.same("up", 1, x.port(p, true));
            Check.same("a NOTICE", port(1002, "1 0", 0, "trap", 0, p, 1, 0), all(x));
            Talk.come(x, 0, Rows.plain(9, 0, Rows.scope(0, Rows.pdu(3, 44, 0, 0, Rows.binding("2.3." + p, Rows.integer(1))))));
            Check.same("set to what it is", "9 0 7 1 0 0 -1 0: 0 response 44 0 0, 2.3." + p + "=1 to 0", all(x));
            Talk.come(x, 0, Rows.plain(9, 0, Rows.scope(0, Rows.pdu(3, 44, 0, 0, Rows.binding("2.3." + p, Rows.integer(2))))));
            Check.same("set to another one", "9 0 7 1 0 0 -1 0: 0 response 44 0 0, 2.3." + p + "=2 to 0; "
                    + port(1003, "1 0", 0, "trap", 0, p, 2, 0), all(x));
        }
    }

    private static void targetByTarget() {
        Doc.says("for each TARGET that is on, TARGET by TARGET, there is a NOTICE: BINDINGS 1.3.0 with its VALUE, and, of a PORT, 2.1.p "
                + "and 2.3.p with theirs.", "X by X is by rising numbers.");
        for (int on = 0; on < 16; on++) {
            Agenttree x = open();
            x.tick(7);
            for (int target = 3; target >= 0; target--) {
                x.target(target, (on >> target & 1) == 1, target & 1, target >> 1, 0, target == 2);
            }
            x.port(2, false);
            StringBuilder due = new StringBuilder();
            int number = 1000;
            for (int target = 0; target < 4; target++) {
                if ((on >> target & 1) == 1) {
                    number++;
                    due.append(due.length() == 0 ? "" : "; ").append(port(number, "1 7", target >> 1, target == 2 ? "inform" : "trap", 7, 2,
                            2, target & 1));
                }
            }
            Check.same("TARGETS " + on, due.toString(), all(x));
            Check.same("OPEN", on >> 2 & 1, x.ofAgent(6));
        }
    }

    private static void portByPort() {
        Doc.says("then behind its RESPONSE, PORT by PORT)");
        Agenttree x = open();
        x.target(1, true, 1, 0, 0, false);
        x.target(3, true, 0, 1, 0, false);
        int[] pdu = Rows.pdu(3, 44, 0, 0, Rows.binding("2.3.4", Rows.integer(2)), Rows.binding("2.3.2", Rows.integer(2)),
                Rows.binding("2.3.3", Rows.integer(1)), Rows.binding("2.3.1", Rows.integer(2)));
        Talk.come(x, 0, Rows.plain(9, 0, Rows.scope(0, pdu)));
        StringBuilder due = new StringBuilder("9 0 7 1 0 0 -1 0: 0 response 44 0 0, 2.3.4=2, 2.3.2=2, 2.3.3=1, 2.3.1=2 to 0");
        int number = 1000;
        for (int p : new int[] {1, 2, 4}) {
            due.append("; ").append(port(++number, "1 0", 0, "trap", 0, p, 2, 1));
            due.append("; ").append(port(++number, "1 0", 1, "trap", 0, p, 2, 0));
        }
        Check.same("PORT by PORT", due.toString(), all(x));
    }

    private static void setsOfOtherThings() {
        Agenttree x = open();
        x.note(0, 1, 2, true);
        x.note(0, 3, 4, true);
        x.target(0, true, 0, 0, 0, true);
        int[] pdu = Rows.pdu(3, 44, 0, 0, Rows.binding("1.1.0", Rows.octets("a")), Rows.binding("1.2.0", Rows.integer(2)),
                Rows.binding("2.2.1", Rows.octets("b")), Rows.binding("3.2.1.2", Rows.integer(5)), Rows.binding("3.3.1.2", Rows.integer(2)),
                Rows.binding("3.3.3.4", Rows.integer(6)), Rows.binding("3.3.2.3", Rows.integer(4)), Rows.binding("2.3.3", Rows.integer(1)));
        Talk.come(x, 0, Rows.plain(9, 0, Rows.scope(0, pdu)));
        Check.is("all is done", x.rowText(0).contains("response 44 0 0, 1.1.0='a'"));
        Check.same("a RESPONSE alone", 1, x.rows());
        Check.same("no NOTICE", "1000 0", x.ofAgent(7) + " " + x.ofAgent(6));
        x.traffic(1, 5, 5);
        x.note(0, 1, 3, true);
        x.user(0, true, 5, 1);
        Check.same("nor by any of these", 1000, x.ofAgent(7));
    }

    private static void beginningAnew() {
        Doc.says("and as the agent begins anew,");
        Doc.promise(3, "Returns BOOTS then.");
        Agenttree x = open();
        x.target(0, true, 1, 1, 0, true);
        x.tick(9);
        for (int boots = 2; boots <= 4; boots++) {
            Check.same("BOOTS", boots, x.restart());
            Check.same("a NOTICE of 1.3.0 alone", (999 + boots) + " 0 7 " + boots + " 0 1 -1 0: 0 inform " + (999 + boots)
                    + " 0 0, 1.3.0=t0 to 1", all(x));
            Check.same("OPEN", 1, x.ofAgent(6));
            x.tick(1);
        }
    }

    private static void numbers() {
        Doc.promise(8, "7 the number of the last NOTICE that was SENT (1000 without)");
        Agenttree x = open();
        Check.same("without", 1000, x.ofAgent(7));
        x.target(0, true, 0, 0, 0, true);
        x.target(1, true, 0, 2, 0, true);
        x.target(2, true, 0, 1, 0, false);
        x.port(1, false);
        Check.same("one that is not SENT has no number", "1001 1002", x.rowText(0).split(" ")[0] + " " + x.rowText(1).split(" ")[0]);
        x.tick(5);
        Check.same("what is SENT again keeps its number", 1002, x.ofAgent(7));
        x.restart();
        Check.same("they go on behind a BOOT", 1004, x.ofAgent(7));
    }

    /** At which TICKS behind the first time it is SENT. */
    private static String ticks(Agenttree x, int many) {
        StringBuilder s = new StringBuilder();
        for (int tick = 1; tick <= many; tick++) {
            Check.same("OPEN ahead of the TICK " + tick, tick <= 20 ? 1 : 0, x.ofAgent(6));
            x.tick(1);
            while (x.rows() > 0) {
                s.append(s.length() == 0 ? "" : " ").append(tick);
                x.lose(0);
            }
        }
        return s.toString();
    }

    private static void sentAgain() {
        Doc.says("An INFORM that was SENT is OPEN.", "While it is OPEN, it is SENT again 5, 10 and 15 TICKS behind the first time",
                "20 TICKS behind it it is OPEN no more.");
        for (int first : new int[] {0, 1, 4, 5, 40}) {
            for (int level = 0; level <= 2; level++) {
                Agenttree x = open();
                if (first > 0) {
                    x.tick(first);
                }
                x.target(0, true, 0, 0, level, true);
                x.port(1, false);
                x.lose(0);
                Check.same("SENT again", "5 10 15", ticks(x, 26));
                Check.same("four rows", 4, x.house(0));
                Check.same("one number", 1001, x.ofAgent(7));
            }
        }
        Agenttree y = open();
        y.target(0, true, 0, 0, 0, false);
        y.port(1, false);
        y.lose(0);
        y.tick(30);
        Check.same("a TRAP is not SENT again", 0, y.rows());
    }

    private static void sentAgainAsTheFirstTime() {
        Doc.says("(each time with BOOTS, TIME and SALT of that TICK, and by the KEY that the USER has at that TICK, known or not",
                "all else as the first time, the MANAGER and the BINDINGS, too: nothing else is looked at again)");
        for (int level = 0; level <= 2; level++) {
            Agenttree x = open();
            x.tick(2);
            x.target(0, true, 1, 1, level, true);
            x.port(3, false);
            x.lose(0);
            // All of it becomes another one.
            x.target(0, false, 0, 0, 2 - level, false);
            x.port(3, true);
            x.access(1, 0, 2, -1, -1, -1);
            Talk.hold(x, "2");
            x.unfamily(0, 0);
            x.speak(1, 4, 4444);
            for (int n = 1; n <= 3; n++) {
                x.user(1, n == 2, 100 * n, 0);
                x.tick(5);
                int time = 2 + 5 * n;
                int[] scope = scope(6, 1001, 2, 3, 2);
                int[] due = level == 0 ? Rows.open(1001, 7, 1, time, 1, scope)
                        : Rows.sealed(1001, level, 7, 1, time, 1, 100 * n, n, scope);
                Check.same("its bytes", Arrays.toString(due), GuardTests.bytes(x));
                Check.same("from, to and when", "2 1 " + time, x.ofRow(0, 0) + " " + x.ofRow(0, 1) + " " + x.ofRow(0, 4));
                Check.same("just one", 1, x.rows());
                x.lose(0);
            }
        }
    }

    private static void sentAgainByTheKeyThen() {
        for (int user = 0; user <= 4; user++) {
            for (int level = 1; level <= 2; level++) {
                Agenttree x = open();
                x.user(user, true, 9999, 2);
                x.target(0, true, 0, user, level, true);
                x.port(4, false);
                int[] scope = scope(6, 1001, 0, 4, 2);
                Check.same("the first time", Arrays.toString(Rows.sealed(1001, level, 7, 1, 0, user, 9999, 0, scope)), GuardTests.bytes(x));
                x.lose(0);
                x.tick(4);
                x.user(user, false, user, 0);
                x.tick(1);
                Check.same("by the KEY then", Arrays.toString(Rows.sealed(1001, level, 7, 1, 5, user, user, 1, scope)), GuardTests.bytes(x));
            }
        }
    }

    private static void againTickByTick() {
        Doc.promise(2, "TICKS: NOW and TIME grow one by one; INFORMS are SENT again, or end, as section 6 tells, TICK by TICK, by their "
                + "numbers.", "Returns NOW then (all TICKS ever).");
        Agenttree x = open();
        x.target(0, true, 0, 0, 0, true);
        x.target(1, true, 1, 1, 0, true);
        x.port(1, false);
        x.tick(5);
        all(x);
        x.port(2, false);
        all(x);
        Check.same("NOW", 45, x.tick(40));
        StringBuilder got = new StringBuilder();
        for (int k = 0; k < x.rows(); k++) {
            String[] words = x.rowText(k).split(" ");
            got.append(words[0]).append(" at ").append(words[4]).append(' ').append(x.ofRow(k, 4)).append("; ");
        }
        Check.same("TICK by TICK, by their numbers", "1001 at 10 10; 1002 at 10 10; 1003 at 10 10; 1004 at 10 10; 1001 at 15 15; "
                + "1002 at 15 15; 1003 at 15 15; 1004 at 15 15; 1003 at 20 20; 1004 at 20 20; ", got.toString());
        Check.same("OPEN no more", 0, x.ofAgent(6));
        all(x);
        x.restart();
        Check.same("NOW goes on behind a BOOT", 46, x.tick(1));
        Check.same("TIME", 1, x.ofAgent(2));
    }

    private static int[] response(int request) {
        return Rows.scope(-4, Rows.pdu(2, request, 5, 6));
    }

    private static int[] row(int id, int level, int user, int[] scope) {
        return level == 0 ? Rows.plain(id, user, scope) : Rows.sealed(id, level, 7, 1, 0, user, 1000 + user, 0, scope);
    }

    private static void endedByResponses() {
        Doc.says("A RESPONSE that comes (of the LEVELS 1 and 2: is TAKEN) of that USER, of that LEVEL or a higher one, with its number as "
                + "REQUEST ends that, from whichever MANAGER it comes.");
        for (int level = 0; level <= 2; level++) {
            for (int by = 0; by <= 2; by++) {
                for (int from = 0; from < 2; from++) {
                    Agenttree x = open();
                    x.target(0, true, 0, 1, level, true);
                    x.port(1, false);
                    x.port(2, false);
                    all(x);
                    Talk.come(x, from, row(7, by, 1, response(1002)));
                    Check.same("LEVEL " + level + " by " + by, by >= level ? 1 : 2, x.ofAgent(6));
                    Check.same("nothing is SENT", 0, x.rows());
                    x.tick(5);
                    Check.same("the other one is SENT again", by >= level ? 1 : 2, x.rows());
                    Check.is("the first one", x.rowText(0).startsWith("1001 "));
                }
            }
        }
    }

    private static void endedByOthersNot() {
        for (int level = 0; level <= 2; level++) {
            Agenttree x = open();
            x.target(0, true, 0, 1, level, true);
            x.port(1, false);
            all(x);
            for (int request : new int[] {1000, 1002, 0, -1001, -2147483648}) {
                Talk.come(x, 0, row(20 - request, level, 1, response(request)));
                Check.same("REQUEST " + request, 1, x.ofAgent(6));
            }
            Talk.come(x, 0, row(8, level, 0, response(1001)));
            Check.same("another USER", 1, x.ofAgent(6));
            for (int kind : new int[] {0, 5, 6, 7}) {
                Talk.come(x, 0, row(30 + kind, level, 1, Rows.scope(0, Rows.pdu(kind, 1001, 0, 0))));
                Check.same("the KIND " + kind, 1, x.ofAgent(6));
            }
            all(x);
            if (level > 0) {
                Talk.come(x, 0, row(50, level, 1, Rows.scope(0, Rows.pdu(5, 1, 0, 0))));
                Talk.come(x, 0, row(50, level, 1, response(1001)));
                Check.same("TAKEN before", 1, x.ofAgent(6));
                Talk.come(x, 0, Rows.sealed(51, level, 7, 1, 16, 1, 1001, 0, response(1001)));
                Check.same("not in time", 1, x.ofAgent(6));
                Talk.come(x, 0, Rows.sealed(52, level, 7, 1, 0, 1, 1000, 0, response(1001)));
                Check.same("a wrong SUM", 1, x.ofAgent(6));
                Talk.come(x, 0, Rows.sealed(53, level, 7, 1, 15, 1, 1001, 0, response(1001)));
            } else {
                Talk.come(x, 0, row(50, 0, 1, response(1001)));
            }
            Check.same("a right one", 0, x.ofAgent(6));
            Talk.come(x, 0, row(54, level, 1, response(1001)));
            Check.same("once more", 0, x.ofAgent(6));
        }
    }

    private static void endedByTicks() {
        Agenttree x = open();
        x.target(0, true, 0, 0, 0, true);
        x.port(1, false);
        x.tick(1);
        x.port(2, false);
        x.tick(18);
        Check.same("19 and 18 TICKS behind", 2, x.ofAgent(6));
        x.tick(1);
        Check.same("20 and 19 TICKS behind", 1, x.ofAgent(6));
        Talk.come(x, 0, Rows.plain(1, 0, response(1001)));
        Check.same("a RESPONSE to the one that ended", 1, x.ofAgent(6));
        x.tick(1);
        Check.same("20 TICKS behind", 0, x.ofAgent(6));
        Check.same("21 in all: 2, and 3 more of each", 8, x.house(0));
    }

    private static void endedAnew() {
        Doc.says("All OPEN ones end as the agent begins anew.");
        Agenttree x = open();
        x.target(0, true, 0, 0, 0, true);
        x.target(1, true, 1, 1, 1, true);
        x.port(1, false);
        x.port(2, false);
        all(x);
        Check.same("OPEN", 4, x.ofAgent(6));
        x.target(0, false, 0, 0, 0, true);
        x.tick(4);
        x.restart();
        Check.same("those of the new BOOT alone", 1, x.ofAgent(6));
        all(x);
        x.tick(1);
        Check.same("none is SENT again 5 TICKS behind", 0, x.rows());
        x.tick(4);
        Check.is("but the new one", x.rows() == 1 && x.rowText(0).startsWith("1005 1 7 2 5 1 "));
    }

    private static void lostOnes() {
        Agenttree x = open();
        for (int i = 0; i < 15; i++) {
            x.send(0);
        }
        x.target(0, true, 0, 0, 2, true);
        x.target(1, true, 1, 0, 0, true);
        x.port(1, false);
        Check.same("one is under way", 16, x.rows());
        Check.same("one is LOST at once", 1, x.house(1));
        Check.same("both are SENT", 17, x.house(0));
        Check.same("both have numbers", 1002, x.ofAgent(7));
        Check.same("both are OPEN", 2, x.ofAgent(6));
        x.tick(5);
        Check.same("again, both LOST", 3, x.house(1));
        Check.same("for the SALT", 2, x.ofAgent(8));
        while (x.rows() > 0) {
            x.lose(0);
        }
        x.tick(5);
        Check.same("again, both under way", "1001 2 1002 0", x.rowText(0).substring(0, 6) + " " + x.rowText(1).substring(0, 6));
    }
}
