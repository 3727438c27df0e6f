/** Promises 11 to 18: what is in HAND and on the SHELF. */
final class HandTests {
    private HandTests() {
    }

    static void run() {
        promises11And13();
        promise12();
        promise14();
        promises15And16();
        promises17And18();
    }

    private static void promises11And13() {
        Agenttree x = new Agenttree();
        Check.same("hand() without", "", x.hand());
        Check.same("name(0, 999, -1, 5)", 3, x.name(0, 999, -1, 5));
        Check.same("hand()", "0.999.5", x.hand());
        Check.same("name(-1, -1, -1, 7)", 1, x.name(-1, -1, -1, 7));
        Check.same("hand()", "7", x.hand());
        Check.same("name(1, 2, 3, 4)", 4, x.name(1, 2, 3, 4));
        Check.badArgument(x, "name of NONES", () -> x.name(-1, -1, -1, -1));
        int[] bad = {-2, 1000};
        for (int b : bad) {
            Check.badArgument(x, "name, first " + b, () -> x.name(b, 1, 1, 1));
            Check.badArgument(x, "name, second " + b, () -> x.name(1, b, 1, 1));
            Check.badArgument(x, "name, third " + b, () -> x.name(1, 1, b, 1));
            Check.badArgument(x, "name, fourth " + b, () -> x.name(1, 1, 1, b));
        }
        Check.same("hand() stays", "1.2.3.4", x.hand());
    }

    private static void promise12() {
        Agenttree x = new Agenttree();
        Check.badState(x, "longer without a NAME", () -> x.longer(1, -1, -1, -1));
        Check.badArgument(x, "longer(1000) without a NAME", () -> x.longer(1000, -1, -1, -1));
        x.name(1, -1, -1, -1);
        Check.same("longer by nothing", 1, x.longer(-1, -1, -1, -1));
        Check.same("longer by three", 4, x.longer(0, -1, 999, 3));
        Check.same("hand()", "1.0.999.3", x.hand());
        Check.same("longer to eight", 8, x.longer(5, 6, 7, 8));
        Check.badState(x, "longer to nine", () -> x.longer(-1, -1, -1, 9));
        Check.same("longer by nothing at eight", 8, x.longer(-1, -1, -1, -1));
        int[] bad = {-2, 1000};
        for (int b : bad) {
            Check.badArgument(x, "longer, first " + b, () -> x.longer(b, 1, 1, 1));
            Check.badArgument(x, "longer, second " + b, () -> x.longer(1, b, 1, 1));
            Check.badArgument(x, "longer, third " + b, () -> x.longer(1, 1, b, 1));
            Check.badArgument(x, "longer, fourth " + b, () -> x.longer(1, 1, 1, b));
        }
        x.name(1, 2, 3, 4);
        x.longer(5, -1, -1, -1);
        Check.badState(x, "longer from five to nine", () -> x.longer(1, 2, 3, 4));
        Check.same("hand() stays", "1.2.3.4.5", x.hand());
    }

    private static void promise14() {
        Agenttree x = new Agenttree();
        Check.badState(x, "shelve without a NAME", () -> x.shelve());
        Talk.hold(x, "4.5.6");
        Check.same("shelve()", 3, x.shelve());
        Check.same("the HAND keeps it", "4.5.6", x.hand());
        Talk.hold(x, "4.5.6.7.8");
        Check.same("shelve() in the place of that", 5, x.shelve());
        Check.same("compare() with itself", 0, x.compare());
        x.longer(9, -1, -1, -1);
        Check.same("what lies there does not grow with the HAND", 1, x.compare());
    }

    private static void promises15And16() {
        Agenttree x = new Agenttree();
        Check.badState(x, "compare() without", () -> x.compare());
        Check.badState(x, "begins() without", () -> x.begins());
        x.name(1, -1, -1, -1);
        Check.badState(x, "compare() without a SHELF", () -> x.compare());
        Check.badState(x, "begins() without a SHELF", () -> x.begins());
        // HAND, SHELF, ORDER, whether HAND BEGINS with SHELF
        Object[][] rows = {
            {"1.2", "1.2", 0, true}, {"1.2", "1.3", -1, false}, {"1.3", "1.2", 1, false},
            {"1.2", "1.2.0", -1, false}, {"1.2.0", "1.2", 1, true}, {"2", "1.9.9", 1, false},
            {"1.10", "1.9", 1, false}, {"0", "999", -1, false}, {"1.2.3.4.5.6.7.8", "1.2.3.4.5.6.7", 1, true},
            {"1.2.3.4.5.6.7", "1.2.3.4.5.6.7.8", -1, false}, {"1.0", "1", 1, true}, {"200", "199.5", 1, false},
        };
        for (Object[] row : rows) {
            Talk.hold(x, (String) row[1]);
            x.shelve();
            Talk.hold(x, (String) row[0]);
            Check.same("compare " + row[0] + " " + row[1], row[2], x.compare());
            Check.same("begins " + row[0] + " " + row[1], row[3], x.begins());
        }
    }

    private static void promises17And18() {
        Agenttree x = new Agenttree();
        Check.same("noLetters() without", 0, x.noLetters());
        Check.same("letters by nothing", 0, x.letters(-1, -1, -1, -1, -1));
        Check.same("letters by three", 3, x.letters(0, -1, 255, -1, 65));
        Check.same("letters to eight", 8, x.letters(66, 31, 32, 126, 127));
        Check.same("letters to twelve", 12, x.letters(39, 97, 98, 99, -1));
        Check.badState(x, "letters to thirteen", () -> x.letters(-1, -1, 1, -1, -1));
        Check.same("letters by nothing at twelve", 12, x.letters(-1, -1, -1, -1, -1));
        Check.badArgument(x, "letters of 256 at twelve", () -> x.letters(256, -1, -1, -1, -1));
        for (int i = 0; i < 5; i++) {
            int at = i;
            for (int b : new int[] {-2, 256}) {
                Check.badArgument(x, "letters, " + i + ": " + b, () -> x.letters(at == 0 ? b : -1, at == 1 ? b : -1,
                        at == 2 ? b : -1, at == 3 ? b : -1, at == 4 ? b : -1));
            }
        }
        x.name(1, -1, -1, -1);
        x.bind(2, 0);
        Check.same("OCTETS as written", "0 get 0 0 0, 1='??AB? ~??abc'", x.draftText());
        Check.same("noLetters()", 12, x.noLetters());
        x.bind(2, 0);
        Check.same("the BINDING ahead keeps its own", "0 get 0 0 0, 1='??AB? ~??abc', 1=''", x.draftText());
        x.letters(1, 2, 3, 4, 5);
        x.letters(1, 2, 3, 4, 5);
        Check.badState(x, "letters from ten to thirteen", () -> x.letters(1, 2, 3, -1, -1));
    }
}
