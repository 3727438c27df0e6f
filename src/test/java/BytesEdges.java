import java.util.Arrays;

/** Section 1 of the document: NAMES, VALUES and bytes at their edges. */
final class BytesEdges {
    private static final int LEAST = -2147483648;
    private static final int GREATEST = 2147483647;

    private BytesEdges() {
    }

    static void run() {
        numbersOfNames();
        order();
        beginning();
        tags();
        written();
        lengthsThatAreEncoded();
        lengthsThatAreRead();
        numbersThatAreEncoded();
        numbersThatAreRead();
        octets();
        bareOnes();
        bytesOfNames();
        namesThatAreRead();
        kinds();
        bindingsOfAPdu();
        heads();
        sumsAndSalts();
        cipheredScopes();
    }

    static String read(int[] row) {
        Agenttree x = new Agenttree();
        Talk.lay(x, row);
        String text = x.read();
        Check.same("fault() of " + text, text.startsWith("fault ") ? Integer.parseInt(text.substring(6)) : -1, x.fault());
        return text;
    }

    /** The row of a DRAFT of one BINDING as a new MANAGER SENDS it. */
    private static int[] sent(int[] binding) {
        return Rows.open(0, 0, 0, 0, 0, Rows.scope(0, Rows.pdu(0, 0, 0, 0, binding)));
    }

    /** What a VALUE of these bytes is written as, or the FAULT behind the place at which it begins. */
    private static String valueOf(int... value) {
        int[] row = sent(Rows.list(Rows.name("1"), value));
        String text = read(row);
        return text.startsWith("fault") ? "fault " + (Integer.parseInt(text.substring(6)) - (row.length - value.length))
                : text.substring(text.indexOf('=') + 1);
    }

    private static void sameBytes(String what, int[] due, Agenttree x) {
        Check.same("bytes of " + what, Arrays.toString(due), GuardTests.bytes(x));
    }

    private static void numbersOfNames() {
        Doc.says("1 to 8 numbers from 0 to 999, written with \".\" between.");
        Agenttree x = new Agenttree();
        Check.same("one number", 1, x.name(-1, -1, 0, -1));
        Check.same("written without any", "0", x.hand());
        x.name(999, -1, -1, -1);
        Check.same("the greatest", "999", x.hand());
        Check.same("eight", 8, x.longer(0, 999, 1, -1) + x.longer(2, 3, 4, 5) - 4);
        Check.same("written with \".\" between", "999.0.999.1.2.3.4.5", x.hand());
        Check.same("NAMES of eight are READ", "999.0.999.1.2.3.4.5", valueOf(Rows.name("999.0.999.1.2.3.4.5")));
    }

    private static void orderOf(String hand, String shelf, int due) {
        Agenttree x = new Agenttree();
        Talk.hold(x, shelf);
        x.shelve();
        Talk.hold(x, hand);
        Check.same(hand + " by ORDER, " + shelf, due, x.compare());
    }

    private static void order() {
        Doc.says("ORDER of NAMES: by the first place at which they differ", "if there is none, the shorter one first.");
        for (int length = 1; length <= 8; length++) {
            String same = "5.5.5.5.5.5.5.5".substring(0, 2 * length - 1);
            orderOf(same, same, 0);
            for (int place = 0; place < length; place++) {
                // The first place that differs tells, whatever is behind it, and whichever is longer.
                String less = same.substring(0, 2 * place) + "4" + ".999".repeat(length - place - 1);
                String more = same.substring(0, 2 * place) + "6";
                orderOf(less, same, -1);
                orderOf(same, less, 1);
                orderOf(more, same, 1);
                orderOf(same, more, -1);
            }
            for (int longer = length + 1; longer <= 8; longer++) {
                String other = same + ".0".repeat(longer - length);
                orderOf(same, other, -1);
                orderOf(other, same, 1);
            }
        }
        orderOf("9", "10", -1);
        orderOf("0", "999", -1);
        orderOf("128", "127", 1);
    }

    private static void begins(String hand, String shelf, boolean due) {
        Agenttree x = new Agenttree();
        Talk.hold(x, shelf);
        x.shelve();
        Talk.hold(x, hand);
        Check.same(hand + " BEGINS with " + shelf, due, x.begins());
    }

    private static void beginning() {
        Doc.says("A NAME BEGINS with another one, if that one's numbers are its first ones (all of them, too).");
        String eight = "1.0.3.4.5.6.7.8";
        for (int length = 1; length <= 8; length++) {
            String first = eight.substring(0, 2 * length - 1);
            begins(eight, first, true);
            begins(first, first, true);
            begins(first, eight, length == 8);
            String other = first.substring(0, 2 * length - 2) + "9";
            begins(eight, other, false);
            begins(other, first, false);
        }
        begins("1.10", "1.1", false);
        begins("10", "1", false);
        begins("1.0", "1", true);
        begins("1", "1.0", false);
    }

    private static void tags() {
        Doc.says("VALUES, each with its TAG: 2 INTEGER (32 bits), 4 OCTETS (0 to 12 bytes), 5 NULL, 6 a NAME, "
                + "65 COUNTER (0 to 65535), 67 TICKS (0 and more), 128 NO_OBJECT, 129 NO_INSTANCE, 130 END.",
                "A BINDING: a LIST of a NAME and a VALUE.");
        int[][] values = {Rows.empty(5), Rows.integer(-7), Rows.octets("ab"), Rows.number(65, 9), Rows.number(67, 9),
            Rows.name("1.2")};
        for (int what = 0; what < 6; what++) {
            Agenttree x = new Agenttree();
            Talk.hold(x, "1.2");
            x.shelve();
            Talk.spell(x, "ab");
            x.bind(what, what == 1 ? -7 : 9);
            x.send(0);
            sameBytes("a BINDING of " + what, sent(Rows.list(Rows.name("1.2"), values[what])), x);
        }
        for (int tag = 0; tag <= 255; tag++) {
            String due = tag == 5 ? "null" : tag == 128 ? "no object" : tag == 129 ? "no instance" : tag == 130 ? "end"
                    : tag == 4 ? "''" : "fault 0";
            Check.same("the TAG " + tag + " without bytes", due, valueOf(tag, 0));
            String with = tag == 2 ? "9" : tag == 4 ? "'?'" : tag == 6 ? "9" : tag == 65 ? "c9" : tag == 67 ? "t9" : "fault 0";
            Check.same("the TAG " + tag + " with a byte", with, valueOf(tag, 1, 9));
        }
    }

    private static void written() {
        Doc.says("Written: INTEGER as digits",
                "OCTETS as signs between two \"'\" (bytes from 32 to 126 but 39 as they are, all others as \"?\")",
                "; \"null\"; a NAME; COUNTER as \"c\" and digits; TICKS as \"t\" and digits; \"no object\"; \"no instance\"; \"end\".");
        for (int b = 0; b <= 255; b++) {
            String sign = b >= 32 && b <= 126 && b != 39 ? "" + (char) b : "?";
            Check.same("the byte " + b, "'" + sign + "'", valueOf(4, 1, b));
        }
        Check.same("OCTETS", "'?? ~??&?('", valueOf(4, 9, 0, 31, 32, 126, 127, 255, 38, 39, 40));
        Check.same("no OCTETS", "''", valueOf(4, 0));
        Check.same("INTEGER", "-2147483648", valueOf(Rows.integer(LEAST)));
        Check.same("INTEGER", "0", valueOf(Rows.integer(0)));
        Check.same("COUNTER", "c0", valueOf(Rows.number(65, 0)));
        Check.same("COUNTER", "c65535", valueOf(Rows.number(65, 65535)));
        Check.same("TICKS", "t0", valueOf(Rows.number(67, 0)));
        Check.same("TICKS", "t2147483647", valueOf(Rows.number(67, GREATEST)));
        Check.same("NAME", "0.999", valueOf(Rows.name("0.999")));
    }

    /** DRAFTS of each length that a row can have: each LIST goes from below 128 to above. */
    private static void lengthsThatAreEncoded() {
        Doc.says("BYTES of something are its TAG, its LENGTH and its CONTENT.", "LENGTH n: below 128 the byte n",
                "from 128 to 255 the bytes 129 and n.", "of a LIST (TAG 48) the BYTES of its parts.");
        java.util.Set<Integer> lengths = new java.util.TreeSet<>();
        for (int i = 0; i < 8 * 13 * 9; i++) {
            lengths.add(lengthOfDraft(i % 8, i / 8 % 13, 1 + i / 104 % 3 * 3, 1 + i / 312 * 3));
        }
        // As each of the four LISTS goes from 127 bytes to 128, the row becomes longer by two.
        int missing = 0;
        for (int length = 60; length < 230; length++) {
            missing += lengths.contains(length) ? 0 : 1;
        }
        Check.same("lengths that no row has", 4, missing);
        Check.is("the outer LIST", lengths.contains(129) && !lengths.contains(130) && lengths.contains(131));
    }

    /** SENDS a DRAFT, whose first BINDING has that NAME and so many OCTETS, others have 12; returns how many bytes. */
    private static int lengthOfDraft(int others, int octets, int firstNumbers, int numbers) {
        Agenttree x = new Agenttree();
        int[] bindings = {};
        for (int i = 0; i <= others; i++) {
            Talk.hold(x, "7.7.7.7.7.7.7".substring(0, 2 * (i == 0 ? firstNumbers : numbers) - 1));
            String text = "abcdefghijkl".substring(0, i == 0 ? octets : 12);
            Talk.spell(x, text);
            x.bind(2, 0);
            bindings = Rows.join(bindings, Rows.binding(x.hand(), Rows.octets(text)));
        }
        int[] row = sent(bindings);
        Check.same("SENT, or REFUSED", row.length <= 255 ? 0 : -9, x.send(0));
        if (row.length <= 255) {
            sameBytes("a row of " + row.length, row, x);
            Check.same("READ", "0 0 0 0 0 0 -1 0: " + x.draftText(), x.rowText(0));
            Check.is("isSound()", x.isSound());
        }
        return row.length;
    }

    private static int[] secret(int[] last) {
        return Rows.list(Rows.integer(3), Rows.integer(1), Rows.integer(2), Rows.integer(7), Rows.integer(1),
                Rows.integer(0), Rows.integer(2), Rows.of(4, 2, 0, 0), Rows.integer(5), last);
    }

    private static void lengthsThatAreRead() {
        Doc.says("a LENGTH that is not written as told, is not all there, or goes beyond the end of what it stands in, or");
        int head = 2 + 7 * 3 + 4 + 3;
        for (int n : new int[] {0, 1, 126, 127, 128, 129, 200, 220, 221}) {
            int[] bytes = new int[n];
            int[] right = Rows.part(4, bytes);
            int[] row = secret(right);
            int place = row.length - right.length;
            Check.same("LENGTH " + n, "1 2 7 1 0 2 0 5: " + n, read(row));
            int[] wrong = n < 128 ? Rows.join(Rows.of(4, 129, n), bytes) : Rows.join(Rows.of(4, n), bytes);
            if (secret(wrong).length <= 255) {
                Check.same("LENGTH " + n + " written otherwise", "fault " + place, read(secret(wrong)));
            }
            int[] wide = Rows.join(Rows.of(4, 130, 0, n), bytes);
            if (secret(wide).length <= 255) {
                place = secret(wide).length - wide.length;
                Check.same("LENGTH " + n + " in two bytes", "fault " + place, read(secret(wide)));
            }
        }
        for (int length : new int[] {1, 127, 128, 130, 255}) {
            int[] beyond = length == 1 ? Rows.of(4, 1) : Rows.of(4, length);
            Check.same("LENGTH " + length + " without bytes", "fault " + head, read(secret(beyond)));
        }
        Check.same("a TAG alone", "fault " + head, read(secret(Rows.of(4))));
        Check.same("LENGTH 129 alone", "fault " + head, read(secret(Rows.of(4, 129))));
        Check.same("LENGTH 129 and 127", "fault " + head, read(secret(Rows.of(4, 129, 127))));
        Check.same("LENGTH 129 and 128, none there", "fault " + head, read(secret(Rows.of(4, 129, 128))));
        int[] lacking = Rows.join(Rows.of(4, 129, 128), new int[127]);
        Check.same("LENGTH 128, 127 there", "fault " + (secret(lacking).length - lacking.length), read(secret(lacking)));
        int[] full = secret(Rows.part(4, new int[221]));
        Check.same("a row of 255 bytes", 255, full.length);
        full[2]++;
        Check.same("its LIST goes beyond it", "fault 0", read(full));
        full[2] -= 2;
        Check.same("its last part goes beyond the LIST", "fault " + (head + 1), read(full));
    }

    private static final int[] NUMBERS = {0, 1, -1, 126, 127, 128, 129, -127, -128, -129, -130, 254, 255, 256, 257, 32766,
        32767, 32768, -32767, -32768, -32769, 65534, 65535, 65536, 8388607, 8388608, -8388608, -8388609, 16777215,
        16777216, GREATEST, GREATEST - 1, LEAST, LEAST + 1};

    private static int bytesOf(int n) {
        return n >= -128 && n <= 127 ? 1 : n >= -32768 && n <= 32767 ? 2 : n >= -8388608 && n <= 8388607 ? 3 : 4;
    }

    private static void numbersThatAreEncoded() {
        Doc.says("CONTENT: of INTEGER, COUNTER and TICKS the number in the fewest bytes (1 to 4), the greatest ones first, "
                + "whose first binary digit is 1 just if it is below 0");
        for (int n : NUMBERS) {
            for (int what : new int[] {1, 3, 4}) {
                int tag = what == 1 ? 2 : what == 3 ? 65 : 67;
                if (what == 1 || what == 3 && n >= 0 && n <= 65535 || what == 4 && n >= 0) {
                    Agenttree x = new Agenttree();
                    x.name(1, -1, -1, -1);
                    x.bind(what, n);
                    x.send(0);
                    int[] row = sent(Rows.binding("1", Rows.number(tag, n)));
                    sameBytes(tag + " of " + n, row, x);
                    int at = row.length - bytesOf(n);
                    Check.same("its LENGTH", bytesOf(n), x.byteOf(0, at - 1));
                    Check.same("its first digit", n < 0, x.byteOf(0, at) > 127);
                    Check.same("its last byte", n & 255, x.byteOf(0, row.length - 1));
                }
            }
        }
    }

    private static void numbersThatAreRead() {
        Doc.says("a CONTENT that is none of its TAG (INTEGER, COUNTER, TICKS not in the fewest bytes",
                "COUNTER out of 0 to 65535, TICKS below 0");
        for (int n : NUMBERS) {
            for (int tag : new int[] {2, 65, 67}) {
                int[] right = Rows.number(tag, n);
                boolean isLet = tag == 2 || n >= 0 && (tag == 67 || n <= 65535);
                String sign = tag == 2 ? "" : tag == 65 ? "c" : "t";
                Check.same(tag + " of " + n, isLet ? sign + n : "fault 0", valueOf(right));
                int[] longer = Rows.join(Rows.of(tag, right[1] + 1, n < 0 ? 255 : 0), Arrays.copyOfRange(right, 2, right.length));
                Check.same(tag + " of " + n + " in one byte more", "fault 0", valueOf(longer));
            }
        }
        for (int tag : new int[] {2, 65, 67}) {
            Check.same(tag + " in no byte", "fault 0", valueOf(tag, 0));
            Check.same(tag + " in five bytes", "fault 0", valueOf(tag, 5, 1, 0, 0, 0, 0));
            Check.same(tag + " in five bytes from 0 on", "fault 0", valueOf(tag, 5, 0, 128, 0, 0, 0));
            Check.same(tag + " in two bytes that are 0", "fault 0", valueOf(tag, 2, 0, 0));
            Check.same(tag + " in two bytes that are -1", "fault 0", valueOf(tag, 2, 255, 255));
        }
        for (int many = 5; many <= 12; many++) {
            int[][] fills = {{1, 2}, {0, 0}, {255, 255}, {127, 255}, {0, 128}, {1, 0}, {255, 0}};
            for (int[] fill : fills) {
                int[] content = new int[many];
                Arrays.fill(content, fill[1]);
                content[0] = fill[0];
                for (int tag : new int[] {2, 65, 67}) {
                    Check.same(tag + " in " + many + " bytes", "fault 0", valueOf(Rows.part(tag, content)));
                }
            }
        }
        Check.same("COUNTER 65535", "c65535", valueOf(65, 3, 0, 255, 255));
        Check.same("COUNTER 65536", "fault 0", valueOf(65, 3, 1, 0, 0));
        Check.same("COUNTER -1", "fault 0", valueOf(65, 1, 255));
        Check.same("TICKS -1", "fault 0", valueOf(67, 1, 255));
        Check.same("TICKS at their greatest", "t2147483647", valueOf(67, 4, 127, 255, 255, 255));
        Check.same("TICKS beyond", "fault 0", valueOf(67, 4, 128, 0, 0, 0));
    }

    private static void octets() {
        Doc.says("of OCTETS themselves", "OCTETS of a VALUE with more than 12 bytes");
        for (int n = 0; n <= 14; n++) {
            String signs = "abcdefghijklmn".substring(0, n);
            Check.same(n + " OCTETS are READ", n <= 12 ? "'" + signs + "'" : "fault 0", valueOf(Rows.octets(signs)));
            if (n <= 12) {
                Agenttree x = new Agenttree();
                x.name(1, -1, -1, -1);
                Talk.spell(x, signs);
                x.bind(2, 0);
                x.send(0);
                sameBytes(n + " OCTETS", sent(Rows.binding("1", Rows.octets(signs))), x);
            }
        }
        Check.same("128 OCTETS", "fault 0", valueOf(Rows.part(4, new int[128])));
        for (int b : new int[] {0, 1, 31, 39, 126, 127, 128, 129, 200, 254, 255}) {
            int[] eight = {b, 128, b, 255, 0, b, 127, b};
            Agenttree x = new Agenttree();
            Talk.learn(x, 0);
            x.draft(Talk.SET, 0, 0, 0, 0);
            x.name(1, 1, 0, -1);
            x.letters(eight[0], eight[1], eight[2], eight[3], -1);
            x.letters(eight[4], eight[5], eight[6], eight[7], -1);
            x.bind(2, 0);
            x.send(0);
            int[] binding = Rows.binding("1.1.0", Rows.part(4, eight));
            sameBytes("OCTETS of " + b, Rows.open(2, 7, 1, 0, 0, Rows.scope(0, Rows.pdu(3, 2, 0, 0, binding))), x);
            x.passAll(2);
            x.draft(0, 0, 0, 0, 0);
            x.bind(0, 0);
            x.send(0);
            x.pass(0);
            sameBytes("the label of " + b, Rows.open(4, 7, 1, 0, 0, Rows.scope(0, Rows.pdu(2, 4, 0, 0, binding))), x);
        }
    }

    private static void bareOnes() {
        Doc.says("of NULL, NO_OBJECT, NO_INSTANCE and END nothing", "NULL and its like with bytes");
        String[] words = {"null", "no object", "no instance", "end"};
        int[] tags = {5, 128, 129, 130};
        for (int i = 0; i < 4; i++) {
            Check.same(words[i], words[i], valueOf(tags[i], 0));
            Check.same(words[i] + " with a byte", "fault 0", valueOf(tags[i], 1, 0));
            Check.same(words[i] + " with two", "fault 0", valueOf(tags[i], 2, 5, 0));
            Check.same(words[i] + " with 128", "fault 0", valueOf(Rows.part(tags[i], new int[128])));
        }
        Agenttree x = new Agenttree();
        Talk.learn(x, 0);
        x.draft(0, 0, 0, 0, 0);
        Talk.bind(x, "9", "1.9");
        x.bind(0, 1);
        x.send(0);
        x.pass(0);
        int[] none = Rows.join(Rows.binding("9", Rows.empty(128)), Rows.binding("1.9", Rows.empty(128)), Rows.binding("1.9", Rows.empty(128)));
        sameBytes("NO_OBJECT", Rows.open(2, 7, 1, 0, 0, Rows.scope(0, Rows.pdu(2, 2, 0, 0, none))), x);
    }

    private static void bytesOfNames() {
        Doc.says("of a NAME number by number: below 128 one byte, otherwise 128 + number / 128 and number modulo 128");
        int[][] due = {{0, 0}, {1, 1}, {127, 127}, {128, 129, 0}, {129, 129, 1}, {255, 129, 127}, {256, 130, 0},
            {383, 130, 127}, {384, 131, 0}, {511, 131, 127}, {512, 132, 0}, {639, 132, 127}, {640, 133, 0}, {767, 133, 127},
            {768, 134, 0}, {895, 134, 127}, {896, 135, 0}, {998, 135, 102}, {999, 135, 103}};
        for (int[] d : due) {
            int[] bytes = Arrays.copyOfRange(d, 1, d.length);
            Check.same("a NAME of " + d[0], "" + d[0], valueOf(Rows.part(6, bytes)));
            Agenttree x = new Agenttree();
            x.name(d[0], -1, -1, -1);
            x.shelve();
            x.bind(5, 0);
            x.send(0);
            sameBytes("a NAME of " + d[0], sent(Rows.list(Rows.part(6, bytes), Rows.part(6, bytes))), x);
        }
    }

    private static void namesThatAreRead() {
        Doc.says("a NAME with no number, more than 8, one above 999, or one that is not written as told");
        int[][] wrongs = {{6, 0}, {6, 9, 1, 2, 3, 4, 5, 6, 7, 8, 9}, {6, 2, 135, 104}, {6, 2, 255, 127}, {6, 2, 136, 0},
            {6, 2, 128, 0}, {6, 2, 128, 127}, {6, 2, 129, 128}, {6, 2, 129, 255}, {6, 1, 129}, {6, 1, 128}, {6, 3, 1, 2, 135},
            {6, 3, 130, 130, 0}, {6, 10, 1, 2, 3, 4, 5, 6, 7, 8, 129, 0}, {5, 1, 1}};
        for (int[] wrong : wrongs) {
            String what = Arrays.toString(wrong);
            Check.same("a NAME as a VALUE " + what, "fault 0", valueOf(wrong));
            int[] row = sent(Rows.list(wrong, Rows.empty(5)));
            Check.same("a NAME of a BINDING " + what, "fault " + (row.length - wrong.length - 2), read(row));
        }
        int[][] rights = {{6, 1, 0}, {6, 8, 1, 2, 3, 4, 5, 6, 7, 8}, {6, 2, 135, 103}, {6, 2, 129, 0}, {6, 2, 129, 127},
            {6, 16, 129, 0, 135, 103, 129, 0, 135, 103, 129, 0, 135, 103, 129, 0, 135, 103}, {6, 9, 1, 2, 3, 4, 5, 6, 7, 129, 1}};
        String[] texts = {"0", "1.2.3.4.5.6.7.8", "999", "128", "255", "128.999.128.999.128.999.128.999", "1.2.3.4.5.6.7.129"};
        for (int i = 0; i < rights.length; i++) {
            Check.same("a NAME as a VALUE", texts[i], valueOf(rights[i]));
            Check.is("a NAME of a BINDING", read(sent(Rows.list(rights[i], Rows.empty(5)))).endsWith(", " + texts[i] + "=null"));
        }
    }

    private static void kinds() {
        Doc.says("A PDU of the KIND k (0 GET, 1 NEXT, 2 RESPONSE, 3 SET, 4 BULK, 5 TRAP, 6 INFORM, 7 REPORT): like a LIST, "
                + "but with the TAG 160 + k, of the INTEGERS REQUEST, STATUS, INDEX",
                "(Of BULK STATUS is FEW, INDEX is MANY.)", "SCOPE: a LIST of INTEGER CONTEXT and a PDU.");
        String[] words = {"get", "next", "response", "set", "bulk", "trap", "inform", "report"};
        for (int tag = 0; tag <= 255; tag++) {
            int[] pdu = Rows.pdu(tag - 160, LEAST, GREATEST, -1);
            int[] row = Rows.plain(1, 2, Rows.scope(-3, pdu));
            boolean isKind = tag >= 160 && tag <= 167;
            Check.same("the TAG " + tag + " of a PDU", isKind ? "1 0 7 1 0 2 -1 0: -3 " + words[tag - 160]
                    + " -2147483648 2147483647 -1" : "fault " + (row.length - pdu.length), read(row));
        }
        for (int kind : new int[] {0, 1, 3, 4}) {
            Agenttree x = new Agenttree();
            x.draft(kind, 0, 9, -9, 99);
            x.send(1);
            int few = kind == 4 ? -9 : 0;
            int many = kind == 4 ? 99 : 0;
            sameBytes("the KIND " + kind, Rows.open(1, 0, 0, 0, 1, Rows.scope(9, Rows.pdu(kind, 1, few, many))), x);
        }
    }

    private static void bindingsOfAPdu() {
        Doc.says("and a LIST of at most 8 BINDINGS.", "a ninth BINDING).");
        int[] one = Rows.binding("1.1.0", Rows.integer(5));
        int[] all = {};
        for (int n = 0; n <= 10; n++) {
            int[] row = Rows.plain(1, 2, Rows.scope(0, Rows.pdu(0, 5, 0, 0, all)));
            int over = row.length - (n - 8) * one.length;
            Check.same(n + " BINDINGS", n <= 8 ? "1 0 7 1 0 2 -1 0: 0 get 5 0 0" + ", 1.1.0=5".repeat(n) : "fault " + over, read(row));
            if (n == 8) {
                // Bytes behind the eighth one are a ninth one, whatever they are.
                int[] behind = Rows.plain(1, 2, Rows.scope(0, Rows.pdu(0, 5, 0, 0, all, Rows.of(0))));
                Check.same("a byte behind the eighth", "fault " + (behind.length - 1), read(behind));
            }
            all = Rows.join(all, one);
        }
    }

    private static int[] message(int first, int id, int level, int salt, int[] sum, int[] last) {
        return Rows.list(Rows.integer(first), Rows.integer(id), Rows.integer(level), Rows.integer(-1), Rows.integer(LEAST),
                Rows.integer(GREATEST), Rows.integer(77), sum, Rows.integer(salt), last);
    }

    private static final int[] SCOPE = Rows.scope(LEAST, Rows.pdu(0, 1, 0, 0));

    private static void heads() {
        Doc.says("A MESSAGE: a LIST of: INTEGER 3", "; INTEGER ID; INTEGER LEVEL (0 plain, 1 with a SUM, 2 with a SUM and a CIPHER)",
                "; INTEGER ENGINE; INTEGER BOOTS; INTEGER TIME; INTEGER USER;", "the first INTEGER not 3, LEVEL not 0 to 2, SALT not as told");
        int[] none = Rows.octets("");
        for (int first : new int[] {3, 2, 4, 0, -3, 131, LEAST, GREATEST}) {
            Check.same("the first INTEGER " + first, first == 3 ? "-9 0 -1 -2147483648 2147483647 77 -1 0: -2147483648 get 1 0 0"
                    : "fault 2", read(message(first, -9, 0, 0, none, SCOPE)));
        }
        for (int id : new int[] {LEAST, -1, 0, GREATEST}) {
            Check.same("ID " + id, id + " 0 -1 -2147483648 2147483647 77 -1 0: -2147483648 get 1 0 0",
                    read(message(3, id, 0, 0, none, SCOPE)));
        }
        for (int level : new int[] {-1, 3, 4, 256, -256, LEAST, GREATEST}) {
            Check.same("LEVEL " + level, "fault 8", read(message(3, 1, level, 0, none, SCOPE)));
        }
    }

    private static void sumsAndSalts() {
        Doc.says("OCTETS SUM (2 bytes;", "none of the LEVEL 0)", "INTEGER SALT (0 to 255;", "0 but of the LEVEL 2);",
                "a SUM of another length than its LEVEL has");
        int sumPlace = 3 + 3 + 3 + 3 + 6 + 6 + 3 + 2;
        for (int level = 0; level <= 2; level++) {
            int[] last = level == 2 ? Rows.octets("xyz") : SCOPE;
            String end = level == 2 ? ": 3" : ": -2147483648 get 1 0 0";
            for (int bytes = 0; bytes <= 4; bytes++) {
                int[] sum = Rows.part(4, new int[bytes]);
                String due = bytes != (level == 0 ? 0 : 2) ? "fault " + sumPlace
                        : "1 " + level + " -1 -2147483648 2147483647 77 " + (level == 0 ? -1 : 0) + " 0" + end;
                Check.same("a SUM of " + bytes + " bytes, LEVEL " + level, due, read(message(3, 1, level, 0, sum, last)));
            }
            int[] right = Rows.part(4, new int[level == 0 ? 0 : 2]);
            for (int salt : new int[] {-1, 0, 1, 127, 128, 254, 255, 256, LEAST, GREATEST}) {
                boolean isLet = salt == 0 || level == 2 && salt >= 0 && salt <= 255;
                String due = !isLet ? "fault " + (sumPlace + right.length)
                        : "1 " + level + " -1 -2147483648 2147483647 77 " + (level == 0 ? -1 : 0) + " " + salt + end;
                Check.same("SALT " + salt + ", LEVEL " + level, due, read(message(3, 1, level, salt, right, last)));
            }
        }
    }

    private static void cipheredScopes() {
        Doc.says("and of the LEVELS 0 and 1 the SCOPE;", "of the LEVEL 2 something with the TAG 4, and as CONTENT the BYTES of "
                + "the SCOPE, ciphered (READING takes any bytes there, none, too).");
        int[] two = Rows.octets("ab");
        int[] none = Rows.octets("");
        int place = 3 + 3 + 3 + 3 + 6 + 6 + 3 + 2 + 3;
        Check.same("a plain SCOPE of the LEVEL 1", "1 1 -1 -2147483648 2147483647 77 24930 0: -2147483648 get 1 0 0",
                read(message(3, 1, 1, 0, two, SCOPE)));
        Check.same("a plain SCOPE of the LEVEL 2", "fault " + (place + 4), read(message(3, 1, 2, 0, two, SCOPE)));
        Check.same("a ciphered SCOPE of the LEVEL 1", "fault " + (place + 4), read(message(3, 1, 1, 0, two, Rows.octets("abc"))));
        Check.same("a ciphered SCOPE of the LEVEL 0", "fault " + (place + 2), read(message(3, 1, 0, 0, none, Rows.octets("abc"))));
        Check.same("no ciphered byte", "1 2 -1 -2147483648 2147483647 77 24930 0: 0", read(message(3, 1, 2, 0, two, none)));
        for (int b : new int[] {0, 48, 255}) {
            Check.same("any byte, " + b, "1 2 -1 -2147483648 2147483647 77 24930 0: 1",
                    read(message(3, 1, 2, 0, two, Rows.of(4, 1, b))));
        }
        Agenttree x = new Agenttree();
        x.draft(0, 2, 0, 0, 0);
        x.send(0);
        int[] scope = Rows.scope(0, Rows.pdu(0, 0, 0, 0));
        sameBytes("a ciphered SCOPE", Rows.sealed(0, 2, 0, 0, 0, 0, 1000, 0, scope), x);
        Check.same("its text", scope.length, Integer.parseInt(x.rowText(0).replaceFirst(".*: ", "")));
    }
}
