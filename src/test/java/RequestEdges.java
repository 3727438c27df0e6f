import java.util.Arrays;

/** Section 5 of the document: RESPONSES, their heads, and GET, NEXT and BULK at their edges. */
final class RequestEdges {
    private static final int LEAST = -2147483648;
    private static final int GREATEST = 2147483647;

    private RequestEdges() {
    }

    static void run() {
        heads();
        contexts();
        leastLevels();
        viewsThatAreNone();
        nothingElseIsLookedAt();
        gets();
        nexts();
        nextsByViews();
        few();
        many();
        rounds();
        eighthBinding();
        endings();
        greatNumbersOfABulk();
    }

    static Agenttree open() {
        Agenttree x = new Agenttree();
        Talk.seeAll(x);
        return x;
    }

    /** A row of the LEVEL 0 as the USER 0; the SCOPE of its RESPONSE behind its REQUEST. */
    private static String ask(Agenttree x, int context, int[] pdu) {
        Talk.come(x, 0, Rows.plain(9, 0, Rows.scope(context, pdu)));
        Check.same("rows under way", 1, x.rows());
        String text = x.rowText(0);
        x.lose(0);
        String head = "9 0 7 1 0 0 -1 0: " + context + " response 44 ";
        Check.is("the head of " + text, text.startsWith(head));
        return text.substring(Math.min(head.length(), text.length()));
    }

    static int[] pdu(int kind, int few, int many, String... names) {
        int[] all = {};
        for (String name : names) {
            all = Rows.join(all, Rows.binding(name, Rows.empty(5)));
        }
        return Rows.pdu(kind, 44, few, many, all);
    }

    private static String get(Agenttree x, String... names) {
        return ask(x, 0, pdu(0, 0, 0, names)).replaceFirst("^0 0(, )?", "");
    }

    private static String next(Agenttree x, String... names) {
        return ask(x, 0, pdu(1, 0, 0, names)).replaceFirst("^0 0(, )?", "");
    }

    private static String bulk(Agenttree x, int few, int many, String... names) {
        return ask(x, 0, pdu(4, few, many, names)).replaceFirst("^0 0(, )?", "");
    }

    private static void heads() {
        Doc.says("Each other one gets a RESPONSE: to whom it came from, of the same LEVEL, ID, USER, CONTEXT and REQUEST, with ENGINE, "
                + "BOOTS and TIME of the agent");
        int[] ids = {0, 127, 128, -129, LEAST, GREATEST};
        for (int i = 0; i < ids.length; i++) {
            for (int level = 0; level <= 2; level++) {
                Agenttree x = new Agenttree();
                x.restart();
                x.tick(20);
                int request = ids[ids.length - 1 - i];
                int context = ids[(i + 1) % ids.length];
                int[] scope = Rows.scope(context, Rows.pdu(1, request, 77, 88));
                int[] due = Rows.scope(context, Rows.pdu(2, request, context == 0 ? 0 : 16, 0));
                int user = i % 2;
                if (level == 0) {
                    Talk.come(x, 1 - user, Rows.open(ids[i], 7, 9, 99, user, scope));
                    due = Rows.open(ids[i], 7, 2, 20, user, due);
                } else {
                    Talk.come(x, 1 - user, Rows.sealed(ids[i], level, 7, 2, 13, user, 1000 + user, 9, scope));
                    due = Rows.sealed(ids[i], level, 7, 2, 20, user, 1000 + user, 0, due);
                }
                Check.same("its bytes", Arrays.toString(due), GuardTests.bytes(x));
                Check.same("to whom it came from", "2 " + (1 - user), x.ofRow(0, 0) + " " + x.ofRow(0, 1));
                Check.same("just one", 1, x.rows());
            }
        }
    }

    private static void contexts() {
        Doc.says("STATUS 16, INDEX 0 and no BINDINGS, if CONTEXT is not 0 or 1,");
        for (int kind : new int[] {0, 1, 3, 4}) {
            for (int context : new int[] {-1, 0, 1, 2, 9, 256, LEAST, GREATEST}) {
                Agenttree x = new Agenttree();
                x.access(0, 1, 0, 0, 0, -1);
                String got = ask(x, context, Rows.pdu(kind, 44, 0, 1, Rows.binding("1.2.0", Rows.integer(3))));
                String due = context == 0 || context == 1 ? "0 0, " + (kind == 0 ? "1.2.0=0" : kind == 3 ? "1.2.0=3"
                        : context == 0 ? kind == 1 ? "1.3.0=t0" : "1.3.0=t0" : "1.2.0=end") : "16 0";
                Check.same("the KIND " + kind + " in the CONTEXT " + context, due, got);
            }
        }
    }

    private static void leastLevels() {
        Doc.says("LEVEL is below the LEAST of the USER there,");
        for (int context = 0; context < 2; context++) {
            for (int least = 0; least <= 2; least++) {
                for (int level = 0; level <= 2; level++) {
                    Agenttree x = new Agenttree();
                    Talk.learn(x, 0);
                    x.access(0, context, least, 0, 0, -1);
                    // What it is in the other CONTEXT, and of another USER, is not looked at.
                    x.access(0, 1 - context, 2 - least, 0, 0, -1);
                    x.access(1, context, 2, 0, 0, -1);
                    for (int kind : new int[] {0, 1, 3, 4}) {
                        x.draft(kind, level, context, 1, 0);
                        Talk.bind(x, kind == 3 ? "1.2.0=3" : "1.2.0");
                        String got = Talk.sendAndPass(x, 0).split(",")[0].replaceFirst("response \\d+", "response");
                        Check.same("LEVEL " + level + " with LEAST " + least, context + " response "
                                + (level < least ? "16 0" : "0 0"), got);
                    }
                    Check.same("a SET that is not let is not done", level < least ? "0" : "3", Talk.value(x, context, "1.2.0"));
                }
            }
        }
    }

    private static void viewsThatAreNone() {
        Doc.says("or the VIEW that is asked for is NONE (WRITE of a SET, READ of others).");
        for (int kind : new int[] {0, 1, 3, 4}) {
            for (int which = 0; which < 8; which++) {
                Agenttree x = new Agenttree();
                x.access(0, 0, 0, (which & 1) - 1, (which >> 1 & 1) - 1, (which >> 2) - 1);
                boolean isLet = kind == 3 ? (which & 2) == 2 : (which & 1) == 1;
                String got = ask(x, 0, Rows.pdu(kind, 44, 1, 0, Rows.binding("1.2.0", Rows.integer(3))));
                Check.same("the KIND " + kind + " by VIEWS " + which, isLet ? "0 0" : "16 0", got.split(",")[0]);
                Check.same("no BINDINGS", isLet, got.contains(","));
                Check.same("set", kind == 3 && isLet ? "3" : "0", Talk.value(x, 0, "1.2.0"));
            }
        }
        for (int view = 0; view < 4; view++) {
            Agenttree x = new Agenttree();
            x.access(0, 0, 0, view, 3 - view, -1);
            Check.same("a VIEW without FAMILIES is one", "0 0, 1.2.0=" + (view == 0 ? "0" : "no object"), ask(x, 0, pdu(0, 0, 0, "1.2.0")));
            Check.same("for a SET, too", view == 3 ? "0 0, 1.2.0=3" : "6 1, 1.2.0=3",
                    ask(x, 0, Rows.pdu(3, 44, 0, 0, Rows.binding("1.2.0", Rows.integer(3)))));
        }
    }

    private static void nothingElseIsLookedAt() {
        Agenttree x = new Agenttree();
        Check.same("STATUS 16 ahead of what is wrong in a SET", "16 0",
                ask(x, 1, Rows.pdu(3, 44, 0, 0, Rows.binding("9", Rows.empty(5)))));
        Check.same("GET of nothing", "0 0", ask(x, 0, pdu(0, 7, 7)));
        Check.same("NEXT of nothing", "0 0", ask(x, 0, pdu(1, 7, 7)));
        Check.same("SET of nothing", "0 0", ask(x, 0, pdu(3, 7, 7)));
        Check.same("BULK of nothing", "0 0", ask(x, 0, pdu(4, 7, 7)));
    }

    private static void gets() {
        Doc.says("GET: each BINDING's NAME with NO_OBJECT, if V has it not, or it COULD BE one of no COLUMN",
                "otherwise with its VALUE, or NO_INSTANCE, if no such OBJECT is there.",
                "Otherwise, with V that VIEW, and the OBJECTS and COLUMNS of that CONTEXT:");
        Agenttree x = open();
        x.note(0, 1, 1, true);
        Talk.hold(x, "2.2.2");
        x.family(0, 0, false);
        Talk.hold(x, "3.1.1");
        x.family(0, 0, false);
        Check.same("eight", "1.2.0=0, 2.2.1='', 2.2.2=no object, 2.2.3='', 3.1.1.1=no object, 3.2.1.1=0, 3.1.2.1=no instance, "
                + "1.2.0=0", get(x, "1.2.0", "2.2.1", "2.2.2", "2.2.3", "3.1.1.1", "3.2.1.1", "3.1.2.1", "1.2.0"));
        Check.same("what V has not, and is not there", "2.2.2.1=no object, 5.1=no object, 0=no object",
                get(x, "2.2.2.1", "5.1", "0"));
        Check.same("what V has, and COULD BE none", "1=no object, 1.4=no object, 2.6.1=no object", get(x, "1", "1.4", "2.6.1"));
        Check.same("what V has, and is not there", "1.1=no instance, 1.1.0.0=no instance, 4.1.1=no instance",
                get(x, "1.1", "1.1.0.0", "4.1.1"));
        x.note(0, 1, 1, false);
        Check.same("a NOTE that went", "3.2.1.1=no instance", get(x, "3.2.1.1"));
        Talk.come(x, 0, Rows.plain(9, 0, Rows.scope(0, Rows.pdu(0, 44, 0, 0, Rows.binding("1.2.0", Rows.integer(5)),
                Rows.binding("1.1.0", Rows.empty(130))))));
        Check.is("VALUES that are asked with are not looked at", x.rowText(0).endsWith("response 44 0 0, 1.2.0=0, 1.1.0=''"));
        Agenttree y = open();
        y.access(0, 1, 0, 0, -1, -1);
        Check.same("COLUMNS of the CONTEXT 1", "0 0, 1.1.0='', 1.3.0=no object, 2.1.1=no object, 4.1.0=no object, 3.1.1.1=no instance",
                ask(y, 1, pdu(0, 0, 0, "1.1.0", "1.3.0", "2.1.1", "4.1.0", "3.1.1.1")));
    }

    private static void nexts() {
        Doc.says("NEXT: for each BINDING the first NAME by ORDER of an OBJECT that is there, is greater than that of the BINDING, and "
                + "which V has, with its VALUE", "without one the BINDING's NAME with END.");
        String[] all = open().walk(0, 0).split(" ");
        for (int i = 0; i < all.length; i++) {
            Agenttree x = open();
            String behind = i + 1 < all.length ? all[i + 1] : "end";
            String got = next(x, all[i], all[i] + ".0", all[i] + ".999");
            for (String one : got.split(", ")) {
                Check.is("behind " + all[i] + ": " + one, behind.equals("end") ? one.endsWith("=end") : one.startsWith(behind + "="));
            }
            String[] words = all[i].split("\\.");
            String ahead = words[0] + "." + words[1] + (words[2].equals("0") ? "" : "." + (Integer.parseInt(words[2]) - 1) + ".999");
            Check.is("ahead of " + all[i], next(x, ahead).startsWith(all[i] + "="));
        }
        Agenttree x = open();
        Check.same("the least NAME", "1.1.0=''", next(x, "0"));
        Check.same("far ahead", "1.1.0=''", next(x, "0.999.999.999.999.999.999.999"));
        Check.same("a prefix", "1.1.0='', 2.1.1=1, 4.1.0=c3", next(x, "1", "2", "3"));
        Check.same("behind all", "4.8.0=end, 4.8.0.0=end, 5=end, 999.999.999.999.999.999.999.999=end",
                next(x, "4.8.0", "4.8.0.0", "5", "999.999.999.999.999.999.999.999"));
        Check.same("eight", "1.1.0='', 1.2.0=0, 1.3.0=t0, 2.1.1=1, 2.1.2=2, 1.1.0='', 9=end, 1.1.0=''",
                next(x, "1", "1.1.0", "1.2.0", "1.3.0", "2.1.1", "1.1", "9", "0"));
    }

    private static void nextsByViews() {
        Agenttree x = open();
        x.note(0, 2, 3, true);
        Check.same("NOTES that are there", "3.1.2.3='', 3.1.2.3='', 3.2.2.3=0, 3.3.2.3=1, 4.1.0=c1",
                next(x, "2.5.4", "3.1.2.2", "3.1.2.3", "3.2.2.3", "3.3.2.3"));
        Talk.hold(x, "3.2");
        x.family(0, 0, false);
        Check.same("what V has not is left out", "3.3.2.3=1", next(x, "3.1.2.3"));
        Talk.hold(x, "4.8.0");
        x.family(0, 0, false);
        Check.same("at the end, too", "4.7.0=end", next(x, "4.7.0"));
        x.note(0, 2, 3, false);
        Check.same("NOTES that went", "4.1.0=c4", next(x, "2.5.4"));
        Agenttree y = new Agenttree();
        y.access(0, 0, 0, 3, 0, 0);
        Check.same("a VIEW without FAMILIES", "0=end, 1.1.0=end", next(y, "0", "1.1.0"));
        y.access(0, 1, 0, 0, 0, 0);
        Check.same("the CONTEXT 1", "0 0, 1.1.0='', 1.2.0=0, 1.2.0=end", ask(y, 1, pdu(1, 0, 0, "1", "1.1.0", "1.2.0")));
    }

    private static void few() {
        Doc.says("BULK: the first FEW BINDINGS (none, if FEW is below 0; all, if there are not so many) as by NEXT");
        String[] names = {"1.1.0", "2.1.1", "4.1.0", "5"};
        String[] due = {"1.2.0=0", "2.1.2=2", "4.2.0=c0", "5=end"};
        for (int few : new int[] {LEAST, -9, -1, 0, 1, 2, 3, 4, 5, 99, GREATEST}) {
            Agenttree x = open();
            int n = Math.max(0, Math.min(few, 4));
            Check.same("FEW " + few, String.join(", ", Arrays.copyOf(due, n)), bulk(x, few, 0, names));
            String more = String.join(", ", due);
            Check.same("FEW " + few + ", and a ROUND", more, bulk(x, few, 1, names));
        }
        String[] eight = {"1", "1.1.0", "1.2.0", "2", "2.1.1", "2.1.2", "2.1.3", "9"};
        String all = "1.1.0='', 1.2.0=0, 1.3.0=t0, 2.1.1=1, 2.1.2=2, 2.1.3=3, 2.1.4=4, 9=end";
        for (int few : new int[] {7, 8, 9}) {
            Agenttree x = open();
            Check.same("FEW " + few + " of eight", all, bulk(x, few, 8, eight));
        }
    }

    private static void many() {
        Doc.says("then ROUNDS, MANY of them (none, if MANY is below 0; 8 at most)");
        Agenttree x = open();
        String all = "2.1.1=1, 2.1.2=2, 2.1.3=3, 2.1.4=4, 2.2.1='', 2.2.2='', 2.2.3='', 2.2.4=''";
        String[] each = all.split(", ");
        for (int many : new int[] {LEAST, -9, -1, 0, 1, 2, 7, 8, 9, 99, GREATEST}) {
            int n = Math.max(0, Math.min(many, 8));
            Check.same("MANY " + many, String.join(", ", Arrays.copyOf(each, n)), bulk(x, 0, many, "2"));
        }
        Check.same("without others there is no ROUND", "2.1.1=1", bulk(x, 1, 8, "2"));
    }

    private static void rounds() {
        Doc.says("for each of the other BINDINGS, as they stand, as by NEXT from the NAME that was told for it in the ROUND ahead (in "
                + "the first one from its own)");
        Agenttree x = open();
        Check.same("three ROUNDS of two", "2.3.1=1, 2.1.1=1, 2.3.2=1, 2.1.2=2, 2.3.3=1, 2.1.3=3", bulk(x, 0, 3, "2.3", "2.1"));
        Check.same("two ROUNDS of two behind one", "1.1.0='', 2.3.1=1, 2.1.1=1, 2.3.2=1, 2.1.2=2", bulk(x, 1, 2, "1", "2.3", "2.1"));
        Check.same("the same NAME twice", "2.1.1=1, 2.1.1=1, 2.1.2=2, 2.1.2=2", bulk(x, 0, 2, "2", "2"));
        Check.same("one that is END stays it", "4.8.0=c0, 9=end, 4.8.0=end, 9=end", bulk(x, 0, 4, "4.7.0", "9"));
        Check.same("by the NAME that was told", "4.7.0=c0, 4.8.0=c0, 4.8.0=end", bulk(x, 0, 8, "4.6.5"));
    }

    private static void eighthBinding() {
        Doc.says("and with the eighth BINDING of all.");
        String all = "2.1.1=1, 2.3.1=1, 2.5.1=c0, 2.1.2=2, 2.3.2=1, 2.5.2=c0, 2.1.3=3, 2.3.3=1";
        Agenttree x = open();
        Check.same("in the middle of a ROUND", all, bulk(x, 0, 3, "2.1", "2.3", "2.5"));
        Check.same("in the middle of a ROUND, of eight", all, bulk(x, 0, 8, "2.1", "2.3", "2.5"));
        Check.same("behind a ROUND", all.substring(0, all.indexOf(", 2.1.3")), bulk(x, 0, 2, "2.1", "2.3", "2.5"));
        Check.same("by FEW and ROUNDS", "1.1.0='', 1.2.0=0, 2.1.1=1, 2.3.1=1, 2.1.2=2, 2.3.2=1, 2.1.3=3, 2.3.3=1",
                bulk(x, 2, 3, "1", "1.1.0", "2.1", "2.3"));
        Check.same("eight others", "1.1.0='', 1.2.0=0, 1.3.0=t0, 2.1.1=1, 2.1.2=2, 2.1.3=3, 2.1.4=4, 9=end",
                bulk(x, 0, 2, "1", "1.1.0", "1.2.0", "2", "2.1.1", "2.1.2", "2.1.3", "9"));
        Check.same("seven and one", "1.1.0='', 1.2.0=0, 1.3.0=t0, 2.1.1=1, 2.1.2=2, 2.1.3=3, 2.1.4=4, 2.3.1=1",
                bulk(x, 7, 2, "1", "1.1.0", "1.2.0", "2", "2.1.1", "2.1.2", "2.1.3", "2.3"));
    }

    private static void endings() {
        Doc.says("it ends behind a ROUND in which all were END,", "STATUS 0, INDEX 0. SET");
        Agenttree x = open();
        Check.same("a first ROUND of END", "9=end", bulk(x, 0, 8, "9"));
        Check.same("a first ROUND of END, of two", "9=end, 10=end", bulk(x, 0, 8, "9", "10"));
        Check.same("a third ROUND of END", "4.7.0=c0, 4.8.0=c0, 4.8.0=end", bulk(x, 0, 8, "4.6.0"));
        Check.same("no ROUND behind it", "4.7.0=c0, 4.8.0=c0", bulk(x, 0, 2, "4.6.0"));
        Check.same("one is not END yet", "9=end, 4.7.0=c0, 9=end, 4.8.0=c0, 9=end, 4.8.0=end", bulk(x, 0, 8, "9", "4.6.0"));
        Check.same("END among the first FEW ends nothing", "9=end, 4.8.0=c0, 4.8.0=end", bulk(x, 1, 8, "9", "4.7.0"));
        Check.same("STATUS and INDEX", "0 0, 1.1.0=''", ask(x, 0, pdu(4, 1, 8, "1")));
    }

    private static void greatNumbersOfABulk() {
        Agenttree x = open();
        Check.same("both at their greatest", "1.1.0='', 2.1.1=1", bulk(x, GREATEST, GREATEST, "1", "2"));
        Check.same("both at their least", "", bulk(x, LEAST, LEAST, "1", "2"));
        Check.same("the least FEW, the greatest MANY", "4.8.0=c0, 4.8.0=end", bulk(x, LEAST, GREATEST, "4.7.0"));
        Check.same("as many FEW as MANY", "1.1.0='', 2.1.1=1, 2.1.2=2", bulk(x, 1, 2, "1", "2"));
    }
}
