import java.util.Arrays;

/** Section 7 of the document: what MANAGERS know and learn, their DRAFTS and ANSWERS, and what they drop. */
final class ManagerEdges {
    private static final int LEAST = -2147483648;
    private static final int GREATEST = 2147483647;
    private static final int[] NULL = Rows.binding("1.2", Rows.empty(5));

    private ManagerEdges() {
    }

    static void run() {
        managersAtFirst();
        timesThatAreTold();
        timesThatWrapAround();
        idsOfDrafts();
        openDrafts();
        droppedFaults();
        faultsOfAnswers();
        droppedUsersAndSums();
        learningOfTheLevel0();
        learningOfOtherLevels();
        learningThoughDropped();
        answersByLevels();
        answersByIds();
        reports();
        told();
        answersToInforms();
        allElse();
        rowsOfAnotherEngine();
    }

    private static int[] scope(int kind, int request) {
        return Rows.scope(0, Rows.pdu(kind, request, 0, 0, NULL));
    }

    private static String knows(Agenttree x, int manager) {
        return x.ofManager(manager, 2) + " " + x.ofManager(manager, 3) + " " + x.ofManager(manager, 4);
    }

    private static int[] row(int id, int level, int engine, int boots, int time, int[] scope) {
        return level == 0 ? Rows.open(id, engine, boots, time, 0, scope) : Rows.sealed(id, level, engine, boots, time, 0, 1000, 9, scope);
    }

    private static void managersAtFirst() {
        Doc.says("MANAGERS 0 and 1.", "Each speaks as a USER (0, and 1, at first), with a KEY (1000, and 1001), and KNOWS an ENGINE, BOOTS "
                + "and a TIME, and at which NOW (all TICKS ever) it learned that one (0 all at first).", "NONE is -1.");
        Doc.promise(35, "Returns that.", "11 the ID of its last ANSWER (NONE without)");
        Doc.promise(28, "Returns its USER before.");
        Agenttree x = new Agenttree();
        for (int manager = 0; manager < 2; manager++) {
            int[] due = {manager, 1000 + manager, 0, 0, 0, 0, 0, 0, 0, 0, 0, -1};
            for (int what = 0; what <= 11; what++) {
                Check.same("at first: ofManager(" + manager + ", " + what + ")", due[what], x.ofManager(manager, what));
            }
            Check.same("its USER before", manager, x.speak(manager, 4, 0));
            Check.same("its USER before", 4, x.speak(manager, 0, 9999));
            Check.same("its USER and KEY", "0 9999", x.ofManager(manager, 0) + " " + x.ofManager(manager, 1));
        }
        x.speak(0, 3, 9999);
        x.user(3, true, 9999, 2);
        Check.same("it speaks as that", "0 report 0 0 0, 4.3.0=c1", Talk.ask(x, 0, 0, 0, 0));
        Check.same("by that KEY", "0 response 2 0 0, 1.2.0=0", Talk.ask(x, 0, 0, 2, 0, "1.2.0"));
        Check.is("the other one by its own", Talk.ask(x, 1, 0, 0, 0).startsWith("0 report"));
    }

    private static void timesThatAreTold() {
        Doc.says("TIME that it tells: that one, and as many TICKS more as went by since.", "(ENGINE and BOOTS as it KNOWS them.)");
        Doc.promise(29, "A MANAGER KNOWS an ENGINE 0, BOOTS 0 and a TIME 0 again, learned at NOW.", "Returns the BOOTS that it knew.");
        Agenttree x = new Agenttree();
        Check.same("forget() of nothing", 0, x.forget(0));
        x.tick(40);
        Check.same("without learning", "0 0 40", knows(x, 0));
        x.send(0);
        Check.same("it tells", "0 0 0 0 40 0", x.rowText(0).substring(0, 12));
        x.lose(0);
        Check.same("forget() at NOW", 0, x.forget(0));
        Check.same("TIME 0 again", "0 0 0", knows(x, 0));
        Check.same("not of the other one", "0 0 40", knows(x, 1));
        x.restart();
        x.tick(3);
        Talk.learn(x, 0);
        Check.same("learned", "7 2 3", knows(x, 0));
        x.tick(1);
        Check.same("one TICK more", "7 2 4", knows(x, 0));
        x.restart();
        Check.same("a BOOT is not learned by itself", "7 2 4", knows(x, 0));
        x.send(0);
        Check.same("it tells", "4 0 7 2 4 0", x.rowText(0).substring(0, 11));
        Check.same("the BOOTS that it knew", 2, x.forget(0));
        Check.same("nothing again", 0, x.forget(0));
    }

    private static void timesThatWrapAround() {
        Doc.says("Whole numbers have 32 bits (what goes beyond wraps around, if nothing else is said).");
        Agenttree x = new Agenttree();
        Forge.toManager(x, 0, row(5, 0, 7, GREATEST, GREATEST - 1, scope(0, 0)));
        Check.same("the greatest", "7 2147483647 2147483646", knows(x, 0));
        x.tick(1);
        Check.same("one more", "7 2147483647 2147483647", knows(x, 0));
        x.tick(1);
        Check.same("around", "7 2147483647 -2147483648", knows(x, 0));
        x.send(0);
        int[] due = Rows.open(0, 7, GREATEST, LEAST, 0, Rows.scope(0, Rows.pdu(0, 0, 0, 0)));
        Check.same("it tells", Arrays.toString(due), GuardTests.bytes(x));
        x.lose(0);
        Forge.toManager(x, 0, row(5, 1, 7, GREATEST, -2, scope(0, 0)));
        Check.same("a TIME above that is learned", "7 2147483647 -2", knows(x, 0));
        x.tick(3);
        Check.same("from below 0 on", "7 2147483647 1", knows(x, 0));
    }

    private static void idsOfDrafts() {
        Doc.says("As a MANAGER SENDS it, ID and REQUEST both are 2 * n + its number (0 or 1), n being how many it SENT before");
        Doc.promise(33, "Returns its ID;");
        Agenttree x = new Agenttree();
        int[] sent = {0, 0};
        int[] sequence = {0, 1, 1, 0, 1, 1, 1, 0};
        for (int manager : sequence) {
            int id = 2 * sent[manager] + manager;
            Check.same("its ID", id, x.send(manager));
            sent[manager]++;
            Check.same("ID and REQUEST", id + " 0 0 0 0 " + manager + " -1 0: 0 get " + id + " 0 0", x.rowText(x.rows() - 1));
            Check.same("from, to", manager + " 2", x.ofRow(x.rows() - 1, 0) + " " + x.ofRow(x.rows() - 1, 1));
        }
        for (int i = 0; i < 8; i++) {
            x.send(0);
        }
        Check.same("REFUSED", -9, x.send(1));
        x.lose(0);
        Check.same("the next ID", 11, x.send(1));
        Check.same("how many", "11 6", x.ofManager(0, 5) + " " + x.ofManager(1, 5));
        Agenttree y = new Agenttree();
        for (int n = 0; n < 130; n++) {
            Check.same("the ID " + 2 * n, 2 * n, y.send(0));
            y.lose(0);
        }
        Check.same("OPEN", 130, y.ofManager(0, 6));
    }

    private static void openDrafts() {
        Doc.says("A DRAFT: KIND (GET, NEXT, SET, BULK), LEVEL, CONTEXT, FEW and MANY (0 but of a BULK)", "it is OPEN then.");
        Doc.promise(30, "Returns how many BINDINGS the one before had.");
        Doc.promise(31, "Returns how many it has then.");
        Doc.promise(32, "Returns the SCOPE of the DRAFT as a text, REQUEST 0 (section 8).");
        Doc.promise(34, "Returns the SCOPE of its last ANSWER as a text (section 8); \"\" without.");
        Agenttree x = new Agenttree();
        String[] words = {"get", "next", "", "set", "bulk"};
        for (int kind : new int[] {0, 1, 3, 4}) {
            for (int context : new int[] {0, 9}) {
                x.draft(kind, 2, context, kind == 4 ? 99 : GREATEST, kind == 4 ? -9 : LEAST);
                Check.same("its text", context + " " + words[kind] + " 0 " + (kind == 4 ? "99 -9" : "0 0"), x.draftText());
                x.name(1, -1, -1, -1);
                Check.same("one BINDING", 1, x.bind(0, 0));
                Check.same("two", 2, x.bind(0, 0));
                Check.same("how many it had", 2, x.draft(0, 0, 0, 0, 0));
                Check.same("none then", 0, x.draft(0, 0, 0, 0, 0));
            }
        }
        Check.same("without an ANSWER", "", x.answer(0));
        x.name(1, 2, 0, -1);
        x.bind(1, 3);
        x.send(0);
        x.send(1);
        Check.same("it stays", "0 get 0 0 0, 1.2.0=3", x.draftText());
        Check.same("OPEN", "1 1", x.ofManager(0, 6) + " " + x.ofManager(1, 6));
        x.passAll(4);
        Check.same("the ANSWERS", "0 report 0 0 0, 4.3.0=c10 report 0 0 0, 4.3.0=c2", x.answer(0) + x.answer(1));
        Check.same("OPEN no more", "0 0", x.ofManager(0, 6) + " " + x.ofManager(1, 6));
        Check.same("ANSWERS, and their IDS", "1 1 0 1", x.ofManager(0, 7) + " " + x.ofManager(1, 7) + " " + x.ofManager(0, 11) + " "
                + x.ofManager(1, 11));
        x.send(0);
        x.send(0);
        x.lose(0);
        x.passAll(2);
        Check.same("that which was LOST stays OPEN", "1 2 4", x.ofManager(0, 6) + " " + x.ofManager(0, 7) + " " + x.ofManager(0, 11));
        Check.same("its ANSWER", "0 response 4 0 0, 1.2.0=0", x.answer(0));
    }

    /** A LEVEL 0 GET of MANAGER 0 is answered; a byte of that answer is spoiled, then it comes. */
    private static Agenttree answeredWith(int level, int place, int with) {
        Agenttree x = new Agenttree();
        Talk.learn(x, 0);
        x.draft(0, level, 0, 0, 0);
        x.send(0);
        x.pass(0);
        if (place >= 0) {
            x.spoil(0, place, with);
        }
        x.pass(0);
        return x;
    }

    private static void droppedFaults() {
        Doc.says("A row comes to a MANAGER: it is dropped with a FAULT,");
        for (int level = 0; level <= 2; level++) {
            Agenttree x = answeredWith(level, -1, 0);
            Check.same("an ANSWER", "2 0 0", x.ofManager(0, 7) + " " + x.ofManager(0, 9) + " " + x.ofManager(0, 6));
            for (int place : new int[] {0, 1, 2, 4, 8, 23}) {
                Agenttree y = answeredWith(level, place, 200);
                Check.same("a FAULT at " + place, "1 1 1", y.ofManager(0, 7) + " " + y.ofManager(0, 9) + " " + y.ofManager(0, 6));
                Check.same("nothing is learned, or told", "7 1 0 0", knows(y, 0) + " " + y.ofManager(0, 8));
                Check.same("it came", 4, y.house(2));
            }
        }
    }

    /** All is right but one part: without that FAULT it would be an ANSWER. */
    private static void faultsOfAnswers() {
        int[][] bindings = {NULL, Rows.binding("1.2", Rows.of(2, 2, 0, 5)), Rows.binding("1.2", Rows.of(5, 1, 0)), Rows.of(48, 1, 6),
            Rows.list(Rows.of(6, 1, 128), Rows.empty(5))};
        for (int level = 0; level <= 1; level++) {
            for (int i = 0; i < 2 * bindings.length; i++) {
                int[] scope = Rows.scope(0, Rows.pdu(2, 2, 0, 0, NULL, bindings[i / 2]));
                int[] row = Rows.join(row(2, level, 7, 1, 0, scope), new int[i % 2]);
                if (level == 1) {
                    // The SUM stands behind the head of the LIST, seven INTEGERS of three bytes, and its own head.
                    int place = 2 + 7 * 3 + 2;
                    int sum = Rows.sum(row, 1000, place);
                    row[place] = sum / 256;
                    row[place + 1] = sum % 256;
                }
                Agenttree x = new Agenttree();
                Talk.learn(x, 0);
                x.draft(0, level, 0, 0, 0);
                x.send(0);
                x.lose(0);
                Forge.toManager(x, 0, row);
                boolean isRight = i == 0;
                Check.same("ANSWERS, dropped, OPEN", isRight ? "2 0 0" : "1 1 1", x.ofManager(0, 7) + " " + x.ofManager(0, 9) + " " + x.ofManager(0, 6));
                Check.same("its FAULT", isRight ? 0 : 1, BytesEdges.read(row).startsWith("fault") ? 1 : 0);
            }
        }
    }

    private static void droppedUsersAndSums() {
        Doc.says("with another USER than its own, and, of the LEVELS 1 and 2, with another SUM than by its KEY.");
        for (int user : new int[] {-1, 1, 2, 4, 5, 256, LEAST, GREATEST}) {
            Agenttree x = new Agenttree();
            Forge.toManager(x, 0, Rows.open(5, 7, 3, 20, user, scope(5, 77)));
            Check.same("the USER " + user, "1 0 0 0 0", x.ofManager(0, 9) + " " + x.ofManager(0, 8) + " " + knows(x, 0));
            if (user >= 0 && user <= 4) {
                x.speak(0, user, 1);
                Forge.toManager(x, 0, Rows.open(5, 7, 3, 20, user, scope(5, 77)));
                Check.same("its own USER", "1 1 7 3 20", x.ofManager(0, 9) + " " + x.ofManager(0, 8) + " " + knows(x, 0));
            }
        }
        for (int level = 1; level <= 2; level++) {
            for (int key : new int[] {999, 1000, 1001}) {
                Agenttree x = new Agenttree();
                Forge.toManager(x, 0, Rows.sealed(5, level, 7, 3, 20, 0, key, 4, scope(5, 77)));
                Check.same("a SUM by " + key, key == 1000 ? "0 1 7 3 20" : "1 0 0 0 0",
                        x.ofManager(0, 9) + " " + x.ofManager(0, 8) + " " + knows(x, 0));
            }
            for (int place : new int[] {25, 26}) {
                Agenttree y = answeredWith(level, place, 0);
                Agenttree z = answeredWith(level, place, 255);
                Check.same("a byte of the SUM that is another one", "2 1", y.ofManager(0, 9) + z.ofManager(0, 9) + " "
                        + (y.ofManager(0, 7) + z.ofManager(0, 7) - 1));
            }
        }
    }

    private static void learningOfTheLevel0() {
        Doc.says("or LEVEL is 0, and it KNOWS an ENGINE 0), it learns ENGINE, BOOTS, TIME and NOW.");
        for (int time : new int[] {0, -1, 20, LEAST, GREATEST}) {
            Agenttree x = new Agenttree();
            x.tick(9);
            Forge forge = new Forge(x, 0);
            forge.come(row(5, 0, 7, time, time, scope(0, 0)));
            Check.same("BOOTS and TIME " + time, "7 " + time + " " + time, knows(x, 0));
            forge.come(row(5, 0, 7, time, time, scope(5, 1)));
            x.tick(1);
            Check.same("NOW", "7 " + time + " " + (time + 1), knows(x, 0));
            int more = time == GREATEST ? time - 1 : time + 1;
            Forge.toManager(x, 0, row(5, 0, 7, more, more, scope(0, 0)));
            Check.same("it KNOWS an ENGINE", "7 " + time + " " + (time + 1), knows(x, 0));
        }
        for (int engine : new int[] {0, 6, 8, -7, LEAST, GREATEST}) {
            Agenttree x = new Agenttree();
            Forge.toManager(x, 0, row(5, 0, engine, 3, 20, scope(0, 0)));
            Check.same("ENGINE " + engine, "0 0 0", knows(x, 0));
        }
    }

    private static void learningOfOtherLevels() {
        Doc.says("Otherwise, if ENGINE is 7, and (LEVEL is 1 or 2, and BOOTS are above those it KNOWS, or the same and TIME is above that "
                + "which it would tell now;");
        // What it KNOWS is 3 and 20; 25 it would tell.
        int[][] rows = {{3, 25}, {3, 26}, {3, 24}, {3, 100}, {3, LEAST}, {4, 0}, {4, LEAST}, {4, 100}, {2, 26}, {2, 100}, {LEAST, 100},
            {GREATEST, -5}, {0, 0}, {-1, 90}};
        for (int level = 1; level <= 2; level++) {
            for (int[] r : rows) {
                Agenttree x = new Agenttree();
                Forge.toManager(x, 0, row(5, 0, 7, 3, 20, scope(0, 0)));
                x.tick(5);
                Forge.toManager(x, 0, row(5, level, 7, r[0], r[1], scope(0, 0)));
                boolean isNews = r[0] > 3 || r[0] == 3 && r[1] > 25;
                Check.same("BOOTS " + r[0] + " and TIME " + r[1], isNews ? "7 " + r[0] + " " + r[1] : "7 3 25", knows(x, 0));
            }
            for (int engine : new int[] {6, 8, 0}) {
                Agenttree x = new Agenttree();
                Forge.toManager(x, 0, row(5, level, engine, 3, 20, scope(0, 0)));
                Check.same("ENGINE " + engine, "0 0 0", knows(x, 0));
            }
            // Without an ENGINE it learns by BOOTS and TIME, too.
            int[][] news = {{0, 0}, {0, 1}, {1, 0}, {-1, 5}, {1, -9}};
            for (int[] r : news) {
                Agenttree x = new Agenttree();
                Forge.toManager(x, 0, row(5, level, 7, r[0], r[1], scope(0, 0)));
                boolean isNews = r[0] > 0 || r[0] == 0 && r[1] > 0;
                Check.same("BOOTS " + r[0] + " and TIME " + r[1] + " without an ENGINE", isNews ? "7 " + r[0] + " " + r[1] : "0 0 0",
                        knows(x, 0));
            }
        }
    }

    private static void learningThoughDropped() {
        Doc.says("Of the LEVEL 2 it is deciphered (by its KEY, and BOOTS and SALT of the row) and READ; with a FAULT it is dropped.");
        int[] right = scope(5, 1);
        int[][] scopes = {new int[30], Rows.join(right, Rows.of(0)), Arrays.copyOf(right, right.length - 1), right};
        for (int i = 0; i < scopes.length; i++) {
            Agenttree x = new Agenttree();
            Forge.toManager(x, 0, row(5, 2, 7, 3, 20, scopes[i]));
            boolean isRight = i == 3;
            Check.same("ciphered " + i, isRight ? "0 1" : "1 0", x.ofManager(0, 9) + " " + x.ofManager(0, 8));
            Check.same("it is learned", "7 3 20", knows(x, 0));
        }
        for (int salt : new int[] {0, 127, 128, 255}) {
            Agenttree x = new Agenttree();
            Forge.toManager(x, 0, Rows.sealed(5, 2, 7, 3, 20, 0, 1000, salt, scope(5, 1)));
            Check.same("SALT " + salt, "3 0 trap 1 0 0, 1.2=null", x.told(0, 0));
        }
    }

    private static String state(Agenttree x) {
        return x.ofManager(0, 6) + " " + x.ofManager(0, 7) + " " + x.ofManager(0, 9) + " " + x.ofManager(0, 11) + " " + x.answer(0);
    }

    private static void answersByLevels() {
        Doc.says("Then: a RESPONSE with REQUEST and ID of an OPEN DRAFT, and of its LEVEL or a higher one: it is its ANSWER, the DRAFT is OPEN "
                + "no more.");
        for (int level = 0; level <= 2; level++) {
            for (int by = 0; by <= 2; by++) {
                Agenttree x = new Agenttree();
                x.draft(0, level, 0, 0, 0);
                for (int i = 0; i < 3; i++) {
                    x.send(0);
                    x.lose(0);
                }
                Forge forge = new Forge(x, 0);
                forge.come(row(2, by, 7, 1, 0, scope(2, 2)));
                Check.same("LEVEL " + level + " by " + by, by >= level ? "2 1 0 2 0 response 2 0 0, 1.2=null" : "3 0 1 -1 ", state(x));
                forge.come(row(2, by, 7, 1, 0, scope(2, 2)));
                Check.same("once more", by >= level ? "2 1 1 2 0 response 2 0 0, 1.2=null" : "3 0 2 -1 ", state(x));
            }
        }
    }

    private static void answersByIds() {
        int[][] idsAndRequests = {{2, 2}, {2, 0}, {0, 2}, {6, 6}, {3, 3}, {1, 1}, {-2, -2}, {-1, -1}, {LEAST, LEAST}, {GREATEST, GREATEST},
            {1024, 1024}, {0, 0}, {4, 4}, {2, -2}};
        for (int kind : new int[] {2, 7}) {
            for (int[] r : idsAndRequests) {
                Agenttree x = new Agenttree();
                for (int i = 0; i < 3; i++) {
                    x.send(0);
                    x.lose(0);
                }
                Forge.toManager(x, 0, row(r[0], 0, 7, 1, 0, scope(kind, r[1])));
                boolean isOne = (r[0] == 0 || r[0] == 2 || r[0] == 4) && (kind == 7 || r[0] == r[1]);
                String word = kind == 7 ? "report " : "response ";
                Check.same("the ID " + r[0] + " with REQUEST " + r[1], isOne ? "2 1 0 " + r[0] + " 0 " + word + r[1] + " 0 0, 1.2=null"
                        : "3 0 1 -1 ", state(x));
            }
        }
    }

    private static void reports() {
        Doc.says("A REPORT with the ID of an OPEN one, of whichever LEVEL: likewise.");
        for (int level = 0; level <= 2; level++) {
            for (int by = 0; by <= 2; by++) {
                Agenttree x = new Agenttree();
                x.draft(0, level, 0, 0, 0);
                x.send(0);
                x.lose(0);
                Forge forge = new Forge(x, 0);
                forge.come(row(0, by, 7, 1, 0, scope(7, -3)));
                Check.same("LEVEL " + level + " by " + by, "0 1 0 0 0 report -3 0 0, 1.2=null", state(x));
                forge.come(row(0, by, 7, 1, 0, scope(7, -4)));
                Check.same("OPEN no more", "0 1 1 0 0 report -3 0 0, 1.2=null", state(x));
            }
        }
    }

    private static void told() {
        Doc.says("A TRAP or an INFORM with a REQUEST that was not told to it yet in the BOOTS of the row: it is told (behind the others)",
                "(a TRAP that was told already, too; an INFORM that was is not).");
        Doc.promise(36, "Returns BOOTS of its row, a blank, and its SCOPE as a text (section 8).");
        for (int level = 0; level <= 2; level++) {
            for (int first : new int[] {5, 6}) {
                for (int second : new int[] {5, 6}) {
                    Agenttree x = new Agenttree();
                    String[] words = {"trap", "inform"};
                    Forge forge = new Forge(x, 0);
                    forge.come(row(9, level, 7, 3, 5, scope(first, 40)));
                    Check.same("told", "3 0 " + words[first - 5] + " 40 0 0, 1.2=null", x.told(0, 0));
                    forge.come(row(8, level, 7, 3, 6, scope(second, 40)));
                    Check.same("told once", 1, x.ofManager(0, 8));
                    Check.same("a TRAP is dropped then", second == 5 ? 1 : 0, x.ofManager(0, 9));
                    Check.same("each INFORM got a RESPONSE", first - 5 + second - 5, x.rows());
                    Forge.toManager(x, 0, row(8, 0, 7, 4, 6, scope(second, 40)));
                    Check.same("in other BOOTS", "4 0 " + words[second - 5] + " 40 0 0, 1.2=null", x.told(0, 1));
                }
            }
        }
        Agenttree y = new Agenttree();
        Forge forge = new Forge(y, 0);
        int[] requests = {0, -1, 127, -128, 5};
        for (int i = 0; i < requests.length; i++) {
            Check.same("how many", i, y.ofManager(0, 8));
            forge.come(row(9, 0, 7, i % 2, 5, scope(5, requests[i])));
        }
        for (int i = 0; i < requests.length; i++) {
            Check.same("behind the others", i % 2 + " 0 trap " + requests[i] + " 0 0, 1.2=null", y.told(0, i));
        }
        Check.same("none of the other MANAGER", 0, y.ofManager(1, 8));
    }

    private static void answersToInforms() {
        Doc.says("an INFORM gets a RESPONSE each time: to the agent, with LEVEL, ID, USER, ENGINE, BOOTS, TIME, CONTEXT, REQUEST and BINDINGS "
                + "of it, STATUS and INDEX 0, with SUM and CIPHER by its own KEY and SALT.");
        for (int level = 0; level <= 2; level++) {
            for (int manager = 0; manager < 2; manager++) {
                Agenttree x = new Agenttree();
                int[] inform = Rows.scope(4, Rows.pdu(6, -50, 7, 300, NULL, NULL));
                int[] response = Rows.scope(4, Rows.pdu(2, -50, 0, 0, NULL, NULL));
                x.speak(manager, 4, 4321);
                Forge forge = new Forge(x, manager);
                for (int n = 0; n < 3; n++) {
                    if (level == 0) {
                        forge.come(Rows.open(-8, 6, -3, LEAST, 4, inform));
                    } else {
                        forge.come(Rows.sealed(-8, level, 6, -3, LEAST, 4, 4321, 201, inform));
                    }
                    int[] due = level == 0 ? Rows.open(-8, 6, -3, LEAST, 4, response)
                            : Rows.sealed(-8, level, 6, -3, LEAST, 4, 4321, n, response);
                    Check.same("its bytes", Arrays.toString(due), GuardTests.bytes(x));
                    Check.same("from, to", manager + " 2", x.ofRow(0, 0) + " " + x.ofRow(0, 1));
                    Check.same("just one", 1, x.rows());
                    x.lose(0);
                }
                Check.same("told once", 1, x.ofManager(manager, 8));
                Check.same("nothing is dropped", 0, x.ofManager(manager, 9));
                Check.same("of the LEVEL 2", level == 2 ? 3 : 0, x.ofManager(manager, 10));
                Check.same("no DRAFT", "0 0", x.ofManager(manager, 5) + " " + x.ofManager(manager, 6));
            }
        }
    }

    private static void allElse() {
        Doc.says("All else is dropped");
        for (int level = 0; level <= 2; level++) {
            Agenttree x = new Agenttree();
            x.draft(0, level, 0, 0, 0);
            x.send(0);
            x.lose(0);
            Forge forge = new Forge(x, 0);
            int dropped = 0;
            for (int kind : new int[] {0, 1, 3, 4}) {
                forge.come(row(0, level, 7, 1, 0, scope(kind, 0)));
                dropped++;
                Check.same("the KIND " + kind, "1 0 " + dropped + " -1 ", state(x));
                Check.same("nothing is SENT, or told", "0 0", x.rows() + " " + x.ofManager(0, 8));
            }
        }
    }

    private static void rowsOfAnotherEngine() {
        for (int kind : new int[] {2, 5, 6, 7}) {
            Agenttree x = new Agenttree();
            x.send(0);
            x.lose(0);
            Forge.toManager(x, 0, row(0, 0, 9, 1, 5, scope(kind, 0)));
            Check.same("the KIND " + kind + ": nothing is learned", "0 0 0", knows(x, 0));
            Check.same("it is taken", kind == 2 || kind == 7 ? "1 0" : "0 1", x.ofManager(0, 7) + " " + x.ofManager(0, 8));
            Check.same("nothing is dropped", 0, x.ofManager(0, 9));
        }
    }
}
