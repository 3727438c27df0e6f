/** Promises 48 to 54, and what READING is: rows on the BENCH. */
final class ReadingTests {
    private ReadingTests() {
    }

    static void run() {
        promises48And49();
        promise50();
        values();
        faultsOfEachPart();
        faultsOfNumbers();
        faultsOfValues();
        faultsBehind();
        faultsMissing();
        levels();
        ninthBinding();
        promise53();
        promise54();
    }

    private static void promises48And49() {
        Agenttree x = new Agenttree();
        Check.same("lay by nothing", 0, x.lay(-1, -1, -1, -1, -1));
        Check.same("lay two", 2, x.lay(0, -1, 255, -1, -1));
        for (int b : new int[] {-2, 256}) {
            Check.badArgument(x, "lay first " + b, () -> x.lay(b, 1, 1, 1, 1));
            Check.badArgument(x, "lay second " + b, () -> x.lay(1, b, 1, 1, 1));
            Check.badArgument(x, "lay third " + b, () -> x.lay(1, 1, b, 1, 1));
            Check.badArgument(x, "lay fourth " + b, () -> x.lay(1, 1, 1, b, 1));
            Check.badArgument(x, "lay fifth " + b, () -> x.lay(1, 1, 1, 1, b));
        }
        for (int i = 0; i < 50; i++) {
            x.lay(1, 2, 3, 4, 5);
        }
        Check.same("lay to 255", 255, x.lay(1, 2, 3, -1, -1));
        Check.badState(x, "lay to 256", () -> x.lay(-1, -1, -1, -1, 0));
        Check.badArgument(x, "lay 256 at 255", () -> x.lay(256, -1, -1, -1, -1));
        Check.same("lay by nothing at 255", 255, x.lay(-1, -1, -1, -1, -1));
        Check.badArgument(x, "cut(0)", () -> x.cut(0));
        Check.badArgument(x, "cut(256)", () -> x.cut(256));
        Check.same("cut(1)", 254, x.cut(1));
        Check.badState(x, "lay two at 254", () -> x.lay(7, 7, -1, -1, -1));
        Check.same("cut(255)", 0, x.cut(255));
        Check.same("cut(1) of none", 0, x.cut(1));
        x.lay(48, 1, 9, -1, -1);
        Check.same("the last bytes go", 2, x.cut(1));
        x.lay(2, -1, -1, -1, -1);
        x.inject(0);
        Check.same("what is laid stands behind", "48 1 2", x.byteOf(0, 0) + " " + x.byteOf(0, 1) + " " + x.byteOf(0, 2));
    }

    private static void promise50() {
        Agenttree x = new Agenttree();
        Check.badPlace(x, "fetch(0) without rows", () -> x.fetch(0));
        x.send(0);
        x.send(1);
        x.lay(1, 2, 3, 4, 5);
        Check.same("fetch(1)", x.ofRow(1, 2), x.fetch(1));
        Check.same("read() of it", x.rowText(1), x.read());
        Check.badPlace(x, "fetch(2)", () -> x.fetch(2));
        Check.badPlace(x, "fetch(-1)", () -> x.fetch(-1));
        x.lay(0, -1, -1, -1, -1);
        Check.same("the row under way stays as it is", -1, x.ofRow(1, 3));
        Check.same("the FAULT is of the BENCH alone", x.ofRow(1, 2), x.fault());
    }

    private static String readOf(Agenttree x, int[] row) {
        Talk.lay(x, row);
        Check.same("read() and fault()", x.read().startsWith("fault"), x.fault() >= 0);
        return x.read();
    }

    /** What a VALUE of these bytes is written as, or the FAULT behind the place at which it begins. */
    private static String valueOf(Agenttree x, int[] value) {
        int[] row = Rows.plain(1, 2, Rows.scope(0, Rows.pdu(0, 5, 0, 0, Rows.binding("1.2", value))));
        String text = readOf(x, row);
        return text.startsWith("fault") ? "fault " + (x.fault() - (row.length - value.length))
                : text.substring(text.indexOf('=') + 1);
    }

    private static void values() {
        Agenttree x = new Agenttree();
        int[] numbers = {0, 1, -1, 127, 128, -128, -129, 255, 256, 32767, 32768, -32768, -32769, 8388607, 8388608,
            -8388608, -8388609, 2147483647, -2147483648};
        for (int n : numbers) {
            Check.same("INTEGER " + n, "" + n, valueOf(x, Rows.integer(n)));
            if (n >= 0) {
                Check.same("TICKS " + n, "t" + n, valueOf(x, Rows.number(67, n)));
                Check.same("COUNTER " + n, n < 65536 ? "c" + n : "fault 0", valueOf(x, Rows.number(65, n)));
            } else {
                Check.same("TICKS " + n, "fault 0", valueOf(x, Rows.number(67, n)));
                Check.same("COUNTER " + n, "fault 0", valueOf(x, Rows.number(65, n)));
            }
        }
        Check.same("COUNTER 65535", "c65535", valueOf(x, Rows.number(65, 65535)));
        Check.same("COUNTER 65536", "fault 0", valueOf(x, Rows.number(65, 65536)));
        Check.same("OCTETS", "'a?? ~'", valueOf(x, Rows.octets("a'\u00e9 ~")));
        Check.same("no OCTETS", "''", valueOf(x, Rows.octets("")));
        Check.same("12 OCTETS", "'abcdefghijkl'", valueOf(x, Rows.octets("abcdefghijkl")));
        Check.same("13 OCTETS", "fault 0", valueOf(x, Rows.octets("abcdefghijklm")));
        Check.same("NULL", "null", valueOf(x, Rows.empty(5)));
        Check.same("NO_OBJECT", "no object", valueOf(x, Rows.empty(128)));
        Check.same("NO_INSTANCE", "no instance", valueOf(x, Rows.empty(129)));
        Check.same("END", "end", valueOf(x, Rows.empty(130)));
        Check.same("NAME", "0.127.128.129.255.256.998.999", valueOf(x, Rows.name("0.127.128.129.255.256.998.999")));
        Check.same("NAME of nine numbers", "fault 0", valueOf(x, Rows.name("1.2.3.4.5.6.7.8.9")));
        Check.same("NAME above 999", "fault 0", valueOf(x, Rows.name("1.1000")));
        Check.same("NAME of no number", "fault 0", valueOf(x, Rows.of(6, 0)));
        Check.same("NAME with a number that breaks off", "fault 0", valueOf(x, Rows.of(6, 2, 1, 130)));
        Check.same("NAME with a number below 128 in two bytes", "fault 0", valueOf(x, Rows.of(6, 2, 128, 5)));
        Check.same("NAME with a second byte above 127", "fault 0", valueOf(x, Rows.of(6, 2, 129, 128)));
        for (int tag : new int[] {5, 128, 129, 130}) {
            Check.same("bytes where none may be, " + tag, "fault 0", valueOf(x, Rows.of(tag, 1, 0)));
        }
        for (int tag : new int[] {0, 1, 3, 7, 48, 64, 66, 68, 127, 131, 160, 255}) {
            Check.same("a VALUE with the TAG " + tag, "fault 0", valueOf(x, Rows.of(tag, 1, 1)));
        }
        Check.same("the KINDS", "get next response set bulk trap inform report", kinds(x));
    }

    private static String kinds(Agenttree x) {
        StringBuilder text = new StringBuilder();
        for (int kind = 0; kind < 8; kind++) {
            String row = readOf(x, Rows.plain(1, 2, Rows.scope(-3, Rows.pdu(kind, 5, 6, 7))));
            Check.is("the text of " + row, row.startsWith("1 0 7 1 0 2 -1 0: -3 ") && row.endsWith(" 5 6 7"));
            text.append(kind == 0 ? "" : " ").append(row.split(" ")[9]);
        }
        for (int kind : new int[] {-1, 8}) {
            String row = readOf(x, Rows.plain(1, 2, Rows.scope(3, Rows.pdu(kind, 5, 6, 7))));
            Check.same("no such KIND", "fault " + (x.cut(1) + 1 - Rows.pdu(kind, 5, 6, 7).length), row);
        }
        return text.toString();
    }

    private static Part message(Part scope) {
        return Part.list(48, Part.leaf(Rows.integer(3)), Part.leaf(Rows.integer(1000)), Part.leaf(Rows.integer(0)),
                Part.leaf(Rows.integer(7)), Part.leaf(Rows.integer(-4)), Part.leaf(Rows.integer(70000)),
                Part.leaf(Rows.integer(1)), Part.leaf(Rows.octets("")), Part.leaf(Rows.integer(0)), scope);
    }

    private static Part binding(String name, int[] value) {
        return Part.list(48, Part.leaf(Rows.name(name)), Part.leaf(value));
    }

    private static Part pdu() {
        return Part.list(163, Part.leaf(Rows.integer(1)), Part.leaf(Rows.integer(200)), Part.leaf(Rows.integer(-1)),
                Part.list(48, binding("1.1.0", Rows.octets("abc")), binding("3.200", Rows.empty(5)),
                        binding("999", Rows.name("4.500"))));
    }

    private static Part whole() {
        return message(Part.list(48, Part.leaf(Rows.integer(9)), pdu()));
    }

    private static void fault(Agenttree x, String what, Part row, int place) {
        Talk.lay(x, row.bytes());
        Check.same("FAULT, " + what, place, x.fault());
    }

    /** Each part in turn with another TAG, and with LENGTHS that are not as told. */
    private static void faultsOfEachPart() {
        Agenttree x = new Agenttree();
        fault(x, "without any", whole(), -1);
        Check.same("its text", "1000 0 7 -4 70000 1 -1 0: 9 set 1 200 -1, 1.1.0='abc', 3.200=null, 999=4.500", x.read());
        int many = whole().all().size();
        for (int i = 0; i < many; i++) {
            int[][] wrongs = wrongOnes(whole().all().get(i).bytes());
            for (int w = 0; w < wrongs.length; w++) {
                Part row = whole();
                Part part = row.all().get(i);
                part.wrong = wrongs[w];
                fault(x, "part " + i + ", wrong " + w, row, row.placeOf(part, 0));
            }
        }
    }

    private static int[][] wrongOnes(int[] part) {
        int[] otherTag = part.clone();
        otherTag[0] = 49;
        int[] tooLong = part.clone();
        tooLong[1] = 127;
        int[] noLength = {part[0], 128};
        int[] spareLength = Rows.join(Rows.of(part[0], 129, 5, 1), Rows.of(1, 1, 1, 1));
        int[] widerLength = {part[0], 130, 0, 0};
        int[] farLength = {part[0], 129, 255};
        return new int[][] {otherTag, tooLong, noLength, spareLength, widerLength, farLength};
    }

    /** INTEGERS that are not in the fewest bytes, or none that their place lets. */
    private static void faultsOfNumbers() {
        Agenttree x = new Agenttree();
        int[][] wrongs = {{2, 0}, {2, 2, 0, 1}, {2, 2, 0, 127}, {2, 2, 255, 128}, {2, 3, 0, 0, 200},
            {2, 3, 255, 255, 0}, {2, 5, 1, 0, 0, 0, 0}, {2, 5, 0, 128, 0, 0, 0}, {2, 4, 255, 128, 0, 0}};
        int[] places = {0, 1, 2, 3, 4, 5, 6, 8};
        for (int[] wrong : wrongs) {
            for (int place : places) {
                Part row = whole();
                row.parts.get(place).wrong = wrong;
                fault(x, "number " + place, row, row.placeOf(row.parts.get(place), 0));
            }
        }
        int[][] notLet = {{0, 2}, {0, 4}, {2, -1}, {2, 3}, {8, 1}, {8, -1}};
        for (int[] n : notLet) {
            Part row = whole();
            row.parts.get(n[0]).wrong = Rows.integer(n[1]);
            fault(x, "part " + n[0] + " is " + n[1], row, row.placeOf(row.parts.get(n[0]), 0));
        }
        Part sum = whole();
        sum.parts.get(7).wrong = Rows.octets("ab");
        fault(x, "a SUM of the LEVEL 0", sum, sum.placeOf(sum.parts.get(7), 0));
    }

    private static void faultsOfValues() {
        Agenttree x = new Agenttree();
        int[][] wrongs = {Rows.octets("abcdefghijklm"), Rows.of(65, 3, 1, 0, 0), Rows.of(65, 1, 255),
            Rows.of(67, 1, 128), Rows.of(6, 0), Rows.of(128, 1, 7), Rows.of(5, 1, 0), Rows.name("1000"), {7, 0}};
        for (int[] wrong : wrongs) {
            for (int b = 0; b < 3; b++) {
                Part row = whole();
                Part value = row.parts.get(9).parts.get(1).parts.get(3).parts.get(b).parts.get(1);
                value.wrong = wrong;
                fault(x, "VALUE of BINDING " + b, row, row.placeOf(value, 0));
            }
        }
        for (int[] wrong : new int[][] {Rows.of(6, 0), Rows.name("1000"), Rows.name("1.2.3.4.5.6.7.8.9"), Rows.empty(5)}) {
            Part row = whole();
            Part name = row.parts.get(9).parts.get(1).parts.get(3).parts.get(2).parts.get(0);
            name.wrong = wrong;
            fault(x, "NAME of a BINDING", row, row.placeOf(name, 0));
        }
    }

    private static void faultsBehind() {
        Agenttree x = new Agenttree();
        for (int i = 0; i < whole().all().size(); i++) {
            Part row = whole();
            Part part = row.all().get(i);
            if (!part.parts.isEmpty()) {
                part.behind = Rows.of(5, 0);
                // In the LIST of BINDINGS that is no BINDING; elsewhere it stands behind a last part.
                fault(x, "bytes behind in part " + i, row, row.placeOf(part, 0) + part.bytes().length - 2);
            }
        }
        Part row = whole();
        Part first = row.parts.get(9).parts.get(1).parts.get(3).parts.get(0);
        first.behind = Rows.binding("1", Rows.empty(5));
        fault(x, "a BINDING within a BINDING", row, row.placeOf(first, 0) + first.bytes().length - first.behind.length);
        int[] whole = whole().bytes();
        Talk.lay(x, Rows.join(whole, Rows.of(0)));
        Check.same("FAULT behind the MESSAGE", whole.length, x.fault());
    }

    /** Without its last parts each one lacks something where it ends. */
    private static void faultsMissing() {
        Agenttree x = new Agenttree();
        Check.same("FAULT of no byte", 0, x.fault());
        x.lay(48, -1, -1, -1, -1);
        Check.same("FAULT of a TAG alone", 0, x.fault());
        x.lay(0, -1, -1, -1, -1);
        Check.same("FAULT of a MESSAGE of nothing", 2, x.fault());
        for (int i = 0; i < whole().all().size(); i++) {
            int parts = whole().all().get(i).parts.size();
            // Only the LIST of the three BINDINGS is right with fewer.
            boolean isBindings = parts == 3;
            for (int keep = 0; keep < parts; keep++) {
                Part row = whole();
                Part part = row.all().get(i);
                part.parts.subList(keep, parts).clear();
                fault(x, "part " + i + " keeps " + keep, row,
                        isBindings ? -1 : row.placeOf(part, 0) + part.bytes().length);
            }
        }
        int[] whole = whole().bytes();
        for (int cut = 1; cut < whole.length; cut++) {
            Talk.lay(x, java.util.Arrays.copyOf(whole, cut));
            Check.same("FAULT of " + cut + " bytes", 0, x.fault());
        }
    }

    private static int[] ofLevel(int level, int[] sum, int[] salt, int[] last) {
        return Rows.list(Rows.integer(3), Rows.integer(1), Rows.integer(level), Rows.integer(7), Rows.integer(1),
                Rows.integer(0), Rows.integer(2), sum, salt, last);
    }

    private static void levels() {
        Agenttree x = new Agenttree();
        int[] scope = Rows.scope(0, Rows.pdu(0, 1, 0, 0));
        int[] two = Rows.of(4, 2, 200, 10);
        int sumPlace = 2 + 7 * 3;
        int[] zero = Rows.integer(0);
        Check.same("LEVEL 1", "1 1 7 1 0 2 51210 0: 0 get 1 0 0", readOf(x, ofLevel(1, two, zero, scope)));
        Check.same("LEVEL 2", "1 2 7 1 0 2 51210 255: 3", readOf(x, ofLevel(2, two, Rows.integer(255), Rows.octets("abc"))));
        Check.same("LEVEL 2 with no byte", "1 2 7 1 0 2 51210 0: 0", readOf(x, ofLevel(2, two, zero, Rows.octets(""))));
        Check.same("LEVEL 1 without a SUM", "fault " + sumPlace, readOf(x, ofLevel(1, Rows.octets(""), zero, scope)));
        Check.same("a SUM of one byte", "fault " + sumPlace, readOf(x, ofLevel(1, Rows.octets("a"), zero, scope)));
        Check.same("a SUM of three bytes", "fault " + sumPlace, readOf(x, ofLevel(2, Rows.octets("abc"), zero, scope)));
        Check.same("LEVEL 1 with a SALT", "fault " + (sumPlace + 4), readOf(x, ofLevel(1, two, Rows.integer(1), scope)));
        Check.same("SALT 256", "fault " + (sumPlace + 4), readOf(x, ofLevel(2, two, Rows.integer(256), Rows.octets(""))));
        Check.same("SALT -1", "fault " + (sumPlace + 4), readOf(x, ofLevel(2, two, Rows.integer(-1), Rows.octets(""))));
        Check.same("LEVEL 2 with a plain SCOPE", "fault " + (sumPlace + 7), readOf(x, ofLevel(2, two, zero, scope)));
        Check.same("LEVEL 1 with a ciphered SCOPE", "fault " + (sumPlace + 7),
                readOf(x, ofLevel(1, two, zero, Rows.octets("abc"))));
        int[] longOne = Rows.part(4, new int[200]);
        Check.same("200 ciphered bytes", "1 2 7 1 0 2 51210 0: 200", readOf(x, ofLevel(2, two, zero, longOne)));
        int[] exact = Rows.part(4, new int[255 - 3 - 3 - 7 * 3 - 4 - 3]);
        Check.same("a row of 255 bytes", 255, ofLevel(2, two, zero, exact).length);
        Check.same("it has no FAULT", "1 2 7 1 0 2 51210 0: 221", readOf(x, ofLevel(2, two, zero, exact)));
    }

    private static void ninthBinding() {
        Agenttree x = new Agenttree();
        int[] all = {};
        int[] one = Rows.binding("1", Rows.empty(5));
        for (int i = 0; i < 8; i++) {
            all = Rows.join(all, one);
        }
        int[] eight = Rows.plain(1, 2, Rows.scope(0, Rows.pdu(0, 1, 0, 0, all)));
        Talk.lay(x, eight);
        Check.same("eight BINDINGS", -1, x.fault());
        int[] nine = Rows.plain(1, 2, Rows.scope(0, Rows.pdu(0, 1, 0, 0, all, one)));
        Talk.lay(x, nine);
        Check.same("a ninth BINDING", nine.length - one.length, x.fault());
    }

    private static void promise53() {
        Agenttree x = new Agenttree();
        Check.badArgument(x, "sum(-1)", () -> x.sum(-1));
        Check.badArgument(x, "sum(10000)", () -> x.sum(10000));
        // 0 * 257 + 0 + 1 = 1, then 258.
        Check.same("SUM of no byte by 0", 258, x.sum(0));
        Check.same("SUM of no byte by 9999", Rows.sum(new int[0], 9999, -1), x.sum(9999));
        x.lay(255, 255, 0, 255, 1);
        Check.same("SUM of bytes with a FAULT", Rows.sum(new int[] {255, 255, 0, 255, 1}, 4321, -1), x.sum(4321));
        int[] scope = Rows.scope(0, Rows.pdu(0, 1, 0, 0));
        int[] plain = Rows.plain(1, 2, scope);
        Talk.lay(x, plain);
        Check.same("SUM of the LEVEL 0", Rows.sum(plain, 77, -1), x.sum(77));
        for (int level = 1; level <= 2; level++) {
            int[] row = Rows.sealed(9, level, 7, 1, 2, 3, 1003, 5, scope);
            Talk.lay(x, row);
            Check.same("SUM of the LEVEL " + level, row[25] * 256 + row[26], x.sum(1003));
            Check.same("it does not look at its own bytes", Rows.sum(row, 1004, 25), x.sum(1004));
            Talk.lay(x, Rows.join(row, Rows.of(0)));
            Check.same("with a FAULT all bytes count", Rows.sum(Rows.join(row, Rows.of(0)), 1003, -1), x.sum(1003));
        }
    }

    private static void promise54() {
        Agenttree x = new Agenttree();
        Check.badArgument(x, "KEY -1", () -> x.cipher(-1, 0, 0));
        Check.badArgument(x, "KEY 10000", () -> x.cipher(10000, 0, 0));
        Check.badArgument(x, "BOOTS -1", () -> x.cipher(0, -1, 0));
        Check.badArgument(x, "BOOTS 1000", () -> x.cipher(0, 1000, 0));
        Check.badArgument(x, "SALT -1", () -> x.cipher(0, 0, -1));
        Check.badArgument(x, "SALT 256", () -> x.cipher(0, 0, 256));
        Check.same("cipher of no byte", 0, x.cipher(1, 1, 1));
        int[] row = Rows.plain(1, 2, Rows.scope(0, Rows.pdu(0, 1, 0, 0)));
        int[][] keys = {{0, 0, 0}, {9999, 999, 255}, {1000, 1, 7}};
        for (int[] k : keys) {
            Talk.lay(x, row);
            String before = x.read();
            int sum = 0;
            for (int b : Rows.ciphered(row, k[0], k[1], k[2])) {
                sum += b;
            }
            Check.same("cipher", sum, x.cipher(k[0], k[1], k[2]));
            x.cipher(k[0], k[1], k[2]);
            Check.same("undone by the same", before, x.read());
        }
    }
}
