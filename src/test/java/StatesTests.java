/**
 * The rows of promises that look at what is there: IllegalStateException, REFUSED, and NONES alone; with the last
 * state that is let and the first one that is not. Nothing changes by it but how often REFUSED was told.
 */
final class StatesTests {
    private StatesTests() {
    }

    static void run() {
        namesOfNones();
        withoutAName();
        withoutAShelf();
        nineNumbers();
        thirteenLetters();
        sevenFamilies();
        nineBindings();
        manyBytesOnTheBench();
        unfamilyRefused();
        sendRefusedByTheLine();
        sendRefusedByItsBytes();
        twiceRefused();
        replayRefused();
        injectRefused();
    }

    private static void state(Agenttree x, String name, Object... arguments) {
        long before = x.digest();
        Check.same(name + " in a wrong state", IllegalStateException.class, Face.call(x, name, arguments));
        Check.same(name + " in a wrong state, then digest()", before, x.digest());
    }

    /** Those that throw by an argument do so ahead of their state, too. */
    private static void first(Agenttree x, Class<?> due, String name, Object... arguments) {
        long before = x.digest();
        Check.same(name + ", what is named first", due, Face.call(x, name, arguments));
        Check.same(name + ", what is named first, then digest()", before, x.digest());
    }

    private static void sameStory(Agenttree due, Agenttree x, int refusals) {
        Check.same("what becomes of it", Face.story(due, 0), Face.story(x, refusals));
    }

    private static void namesOfNones() {
        Doc.promise(11, "Throws `IllegalArgumentException` if one is not NONE to 999, or all are NONE");
        Agenttree x = new Agenttree();
        Check.badArgument(x, "name of NONES", () -> x.name(-1, -1, -1, -1));
        Check.same("there is none in HAND by that", "", x.hand());
        for (int i = 0; i < 4; i++) {
            Check.same("name of one that is not NONE", 1,
                    x.name(i == 0 ? 0 : -1, i == 1 ? 0 : -1, i == 2 ? 0 : -1, i == 3 ? 0 : -1));
            Check.badArgument(x, "name of NONES with a NAME in HAND", () -> x.name(-1, -1, -1, -1));
            Check.same("that stays", "0", x.hand());
        }
    }

    private static void withoutAName() {
        for (int promise : new int[] {9, 23, 25}) {
            Doc.promise(promise, "Throws `IllegalStateException` if there is no NAME in HAND");
        }
        Doc.promise(22, "Throws `IllegalStateException` if there is no NAME in HAND,");
        Doc.promise(31, "Throws `IllegalStateException` if there is no NAME in HAND,");
        Doc.promise(12, "Throws `IllegalStateException` if there is none in HAND,");
        Doc.promise(14, "Throws `IllegalStateException` if there is none in HAND");
        Agenttree x = new Agenttree();
        state(x, "value", 0);
        first(x, IndexOutOfBoundsException.class, "value", 2);
        state(x, "longer", 1, -1, -1, -1);
        state(x, "longer", -1, -1, -1, -1);
        first(x, IllegalArgumentException.class, "longer", 1000, -1, -1, -1);
        state(x, "shelve");
        state(x, "family", 0, 0, true);
        first(x, IndexOutOfBoundsException.class, "family", 4, 256, true);
        first(x, IllegalArgumentException.class, "family", 0, 256, true);
        state(x, "unfamily", 0, 0);
        first(x, IndexOutOfBoundsException.class, "unfamily", -1, 256);
        first(x, IllegalArgumentException.class, "unfamily", 3, -1);
        state(x, "has", 0);
        first(x, IndexOutOfBoundsException.class, "has", 4);
        for (int what = 0; what <= 5; what++) {
            state(x, "bind", what, 0);
        }
        first(x, IllegalArgumentException.class, "bind", 6, 0);
        first(x, IllegalArgumentException.class, "bind", 3, 65536);
        Check.same("nothing was REFUSED", 0, x.house(3));
        sameStory(new Agenttree(), x, 0);
        Agenttree y = new Agenttree();
        y.name(1, -1, -1, -1);
        Check.same("with one: value()", "", y.value(0));
        Check.same("with one: longer()", 1, y.longer(-1, -1, -1, -1));
        Check.same("with one: shelve()", 1, y.shelve());
        Check.same("with one: family()", 1, y.family(1, 0, true));
        Check.same("with one: has()", true, y.has(1));
        Check.same("with one: unfamily()", 0, y.unfamily(1, 0));
        Check.same("with one: bind()", 1, y.bind(0, 0));
    }

    private static void withoutAShelf() {
        Doc.promise(15, "Throws `IllegalStateException` if there is none in HAND, or on the SHELF");
        Doc.promise(16, "Throws `IllegalStateException` if there is none in HAND, or on the SHELF");
        Doc.promise(31, "none on the SHELF with 5,");
        Agenttree x = new Agenttree();
        state(x, "compare");
        state(x, "begins");
        x.name(1, 2, -1, -1);
        state(x, "compare");
        state(x, "begins");
        state(x, "bind", 5, 0);
        Check.same("without a SHELF the others are let", 1, x.bind(4, 0));
        x.shelve();
        Check.same("with one: compare()", 0, x.compare());
        Check.same("with one: begins()", true, x.begins());
        Check.same("with one: bind()", 2, x.bind(5, 0));
    }

    private static void nineNumbers() {
        Doc.promise(12, "or it would have more than 8");
        Doc.says("A NAME is a row of 1 to 8 numbers");
        for (int have = 1; have <= 8; have++) {
            for (int more = 0; more <= 4; more++) {
                Agenttree x = new Agenttree();
                x.name(1, -1, -1, -1);
                for (int i = 1; i < have; i++) {
                    x.longer(i, -1, -1, -1);
                }
                String before = x.hand();
                int[] n = {-1, -1, -1, -1};
                for (int i = 0; i < more; i++) {
                    n[3 - i] = 900 + i;
                }
                Object due = have + more <= 8 ? (Object) (have + more) : IllegalStateException.class;
                Check.same(have + " numbers and " + more, due, Face.call(x, "longer", n[0], n[1], n[2], n[3]));
                boolean isSame = x.hand().equals(before);
                Check.same(have + " numbers and " + more + ": the HAND stays", have + more > 8 || more == 0, isSame);
                Check.same("how many are written", have + more > 8 ? have : have + more, x.hand().split("\\.").length);
            }
        }
    }

    private static void thirteenLetters() {
        Doc.promise(17, "Throws `IllegalStateException` if they would be more than 12");
        for (int have = 0; have <= 12; have++) {
            for (int more = 0; more <= 5; more++) {
                Agenttree x = new Agenttree();
                for (int i = 0; i < have; i++) {
                    x.letters(-1, -1, 65, -1, -1);
                }
                Object due = have + more <= 12 ? (Object) (have + more) : IllegalStateException.class;
                Check.same(have + " letters and " + more, due, Face.call(x, "letters", more > 4 ? 66 : -1,
                        more > 3 ? 66 : -1, more > 2 ? 66 : -1, more > 1 ? 66 : -1, more > 0 ? 66 : -1));
                x.name(1, -1, -1, -1);
                x.bind(2, 0);
                String written = "A".repeat(have) + (have + more <= 12 ? "B".repeat(more) : "");
                Check.same("they are", "0 get 0 0 0, 1='" + written + "'", x.draftText());
                Check.same("how many", written.length(), x.noLetters());
            }
        }
    }

    private static void sevenFamilies() {
        Doc.promise(22, "or it has six others");
        Doc.says("VIEWS 0 to 3, each with at most 6 FAMILIES");
        Agenttree x = new Agenttree();
        for (int view = 0; view < 4; view++) {
            x.name(1, -1, -1, -1);
            for (int mask = 0; mask < 6; mask++) {
                Check.same("FAMILIES of " + view, mask + 1, x.family(view, mask, true));
            }
            String before = x.families(view);
            state(x, "family", view, 6, true);
            x.name(1, 0, -1, -1);
            state(x, "family", view, 0, true);
            x.name(0, -1, -1, -1);
            state(x, "family", view, 5, false);
            first(x, IllegalArgumentException.class, "family", view, 256, true);
            Check.same("they stay", before, x.families(view));
            x.name(1, -1, -1, -1);
            for (int mask = 0; mask < 6; mask++) {
                Check.same("one of six becomes OUT", 6, x.family(view, mask, false));
            }
            Check.same("all OUT", before.replace('+', '-'), x.families(view));
            Check.same("one goes", 5, x.unfamily(view, 3));
            x.name(7, -1, -1, -1);
            Check.same("a sixth one comes", 6, x.family(view, 255, true));
            state(x, "family", view, 3, true);
        }
        Check.same("nothing was REFUSED", 0, x.house(3));
    }

    private static void nineBindings() {
        Doc.promise(31, "or it has 8");
        Doc.says("at most 8 BINDINGS (at first a GET, all 0, none)");
        Agenttree x = new Agenttree();
        Check.same("none at first", "0 get 0 0 0", x.draftText());
        x.name(1, -1, -1, -1);
        x.shelve();
        for (int i = 1; i <= 8; i++) {
            Check.same("BINDINGS", i, x.bind(1, i));
        }
        String eight = x.draftText();
        Check.same("eight", "0 get 0 0 0, 1=1, 1=2, 1=3, 1=4, 1=5, 1=6, 1=7, 1=8", eight);
        for (int what = 0; what <= 5; what++) {
            state(x, "bind", what, 9);
        }
        first(x, IllegalArgumentException.class, "bind", -1, 9);
        Check.same("eight stay", eight, x.draftText());
        Check.same("eight are SENT", 0, x.send(0));
        Check.same("eight are READ", "0 0 0 0 0 0 -1 0: " + eight, x.rowText(0));
        Check.same("a DRAFT begins", 8, x.draft(0, 0, 0, 0, 0));
        Check.same("without BINDINGS", 1, x.bind(0, 0));
    }

    private static void manyBytesOnTheBench() {
        Doc.promise(48, "Throws `IllegalStateException` if it would have more than 255");
        for (int have = 250; have <= 255; have++) {
            for (int more = 0; more <= 5; more++) {
                Agenttree x = new Agenttree();
                for (int i = 0; i < have / 5; i++) {
                    x.lay(1, 2, 3, 4, 5);
                }
                for (int i = 0; i < have % 5; i++) {
                    x.lay(-1, -1, 6, -1, -1);
                }
                int sum = x.sum(0);
                Object due = have + more <= 255 ? (Object) (have + more) : IllegalStateException.class;
                Check.same(have + " bytes and " + more, due, Face.call(x, "lay", more > 0 ? 7 : -1,
                        more > 1 ? 7 : -1, more > 2 ? 7 : -1, more > 3 ? 7 : -1, more > 4 ? 7 : -1));
                Check.same("the bytes stay", have + more > 255 || more == 0, x.sum(0) == sum);
                Check.same("how many", have + more > 255 ? have - 1 : have + more - 1, x.cut(1));
            }
        }
    }

    // ---- REFUSED

    private static void unfamilyRefused() {
        Doc.says("REFUSED is -9: it is told where a method names it", "nothing changes then, but what is counted.");
        Doc.promise(23, "REFUSED if there is no such one");
        Agenttree x = Face.busy();
        Talk.hold(x, "1");
        Check.refused(x, "unfamily with another MASK", () -> x.unfamily(0, 1));
        Check.refused(x, "unfamily of another VIEW", () -> x.unfamily(1, 0));
        Talk.hold(x, "1.1");
        Check.refused(x, "unfamily with a longer NAME", () -> x.unfamily(0, 0));
        Talk.hold(x, "0");
        Check.refused(x, "unfamily with another NAME", () -> x.unfamily(0, 0));
        Check.badPlace(x, "exceptions go ahead of REFUSED", () -> x.unfamily(4, 0));
        Check.badArgument(x, "exceptions go ahead of REFUSED", () -> x.unfamily(0, 256));
        Check.same("how often", 4, x.house(3));
        Agenttree y = Face.busy();
        Talk.hold(y, "0");
        sameStory(y, x, 4);
        Agenttree z = new Agenttree();
        Talk.hold(z, "1");
        Check.same("the last one goes", 0, z.unfamily(0, 0));
        Check.refused(z, "it does not go again", () -> z.unfamily(0, 0));
    }

    private static void sendRefusedByTheLine() {
        Doc.promise(33, "REFUSED if the LINE has 16 rows,");
        Doc.says("but a DRAFT is REFUSED then, and not SENT)");
        for (int level = 0; level <= 2; level++) {
            Agenttree x = Face.full();
            Agenttree y = Face.full();
            x.draft(0, level, 0, 0, 0);
            y.draft(0, level, 0, 0, 0);
            int id = 2 * x.ofManager(1, 5) + 1;
            int lost = x.house(1);
            Check.refused(x, "send(0) with 16 under way", () -> x.send(0));
            Check.refused(x, "send(1) with 16 under way", () -> x.send(1));
            Check.badPlace(x, "exceptions go ahead of REFUSED", () -> x.send(2));
            Check.same("nothing is LOST", lost, x.house(1));
            sameStory(y, x, 2);
            Agenttree z = Face.full();
            z.draft(0, level, 0, 0, 0);
            z.lose(7);
            Check.same("with 15 under way, the next ID", id, z.send(1));
            Check.same("16 then", 16, z.rows());
        }
    }

    /** A DRAFT whose row has 246 bytes and as many more as there are OCTETS (of the LEVEL 1 two more, of 2 five). */
    private static void writeLongDraft(Agenttree x, int level, int octets) {
        x.draft(0, level, 0, 0, 0);
        Talk.hold(x, "999.998.997.996.995.994.993.992");
        x.shelve();
        for (int i = 0; i < 5; i++) {
            x.bind(i < 4 ? 5 : 0, 0);
        }
        Talk.spell(x, "abcdefghijkl".substring(0, octets));
        x.bind(2, 0);
    }

    private static void sendRefusedByItsBytes() {
        Doc.promise(33, "or it would have more than 255 bytes");
        Doc.says("A row has at most 255 bytes.");
        for (int level = 0; level <= 2; level++) {
            int most = 0;
            for (int octets = 0; octets <= 12; octets++) {
                Agenttree x = new Agenttree();
                writeLongDraft(x, level, octets);
                if (x.send(0) >= 0) {
                    most = octets;
                    Check.is("a row of at most 255", x.ofRow(0, 2) <= 255);
                }
            }
            Agenttree x = new Agenttree();
            writeLongDraft(x, level, most);
            Check.same("it is SENT", 0, x.send(0));
            Check.same("just 255 bytes, LEVEL " + level, 255, x.ofRow(0, 2));
            Check.same("without a FAULT", -1, x.ofRow(0, 3));
            x.lose(0);
            writeLongDraft(x, level, most + 1);
            Check.refused(x, "a row of 256 bytes, LEVEL " + level, () -> x.send(0));
            Check.refused(x, "of the other MANAGER, too", () -> x.send(1));
            Check.same("SENT", 1, x.house(0));
            Check.same("LOST by lose() alone", 1, x.house(1));
            Check.same("of the LEVEL 2", level == 2 ? 1 : 0, x.ofManager(0, 10));
            writeLongDraft(x, level, most);
            Check.same("the next ID", 2, x.send(0));
            Agenttree y = Face.busy();
            Agenttree z = Face.busy();
            writeLongDraft(y, level, 12);
            writeLongDraft(z, level, 12);
            Check.refused(y, "a row of far more", () -> y.send(0));
            sameStory(z, y, 1);
        }
    }

    private static void twiceRefused() {
        Doc.promise(44, "REFUSED if there are 16");
        Agenttree x = Face.full();
        Check.refused(x, "twice(0) with 16", () -> x.twice(0));
        Check.refused(x, "twice(15) with 16", () -> x.twice(15));
        Check.badPlace(x, "exceptions go ahead of REFUSED", () -> x.twice(16));
        sameStory(Face.full(), x, 2);
        Agenttree y = Face.full();
        y.lose(15);
        Check.same("twice(14) with 15", 16, y.twice(14));
    }

    private static void replayRefused() {
        Doc.promise(47, "REFUSED if nothing is recorded there, or there are 16");
        Agenttree x = Face.busy();
        for (int slot : new int[] {0, 1, 3}) {
            int s = slot;
            Check.refused(x, "replay(" + slot + ") of nothing", () -> x.replay(s));
        }
        sameStory(Face.busy(), x, 3);
        Agenttree y = Face.full();
        Check.refused(y, "replay(2) with 16", () -> y.replay(2));
        Check.refused(y, "replay(0) of nothing with 16, once", () -> y.replay(0));
        Check.badPlace(y, "exceptions go ahead of REFUSED", () -> y.replay(4));
        sameStory(Face.full(), y, 2);
        Agenttree z = Face.full();
        z.lose(0);
        Check.same("replay(2) with 15", 16, z.replay(2));
    }

    private static void injectRefused() {
        Doc.promise(55, "REFUSED if there are 16, or it has no byte");
        Agenttree x = Face.busy();
        Agenttree y = Face.busy();
        x.cut(255);
        y.cut(255);
        Check.refused(x, "inject(0) of no byte", () -> x.inject(0));
        Check.refused(x, "inject(1) of no byte", () -> x.inject(1));
        Check.badPlace(x, "exceptions go ahead of REFUSED", () -> x.inject(2));
        sameStory(y, x, 2);
        Agenttree z = Face.full();
        Check.refused(z, "inject(0) with 16", () -> z.inject(0));
        z.cut(255);
        Check.refused(z, "inject(0) of no byte with 16, once", () -> z.inject(0));
        Agenttree w = Face.full();
        w.lose(0);
        w.cut(4);
        Check.same("inject(0) of one byte with 15", 16, w.inject(0));
    }
}
