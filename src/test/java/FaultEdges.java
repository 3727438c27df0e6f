import java.util.List;

/** Section 1 of the document: READING, and each cause of a FAULT at each part, with its place. */
final class FaultEdges {
    private FaultEdges() {
    }

    static void run() {
        otherTags();
        wrongLengths();
        numbersAtEachPlace();
        missingParts();
        bytesBehind();
        partsBeforeTheirLists();
        theFirstOne();
        partsWithinAWrongName();
        soundRows();
        cipheredOnes();
        emptyAndCutRows();
    }

    private static Part whole(int level) {
        Part scope = Part.list(48, Part.leaf(Rows.integer(0)), Part.list(163, Part.leaf(Rows.integer(1)),
                Part.leaf(Rows.integer(200)), Part.leaf(Rows.integer(-1)), Part.list(48,
                        binding("1.1.0", Rows.octets("abc")), binding("3.200", Rows.empty(5)), binding("999", Rows.name("4.500")))));
        Part last = level == 2 ? Part.leaf(Rows.part(4, new int[130])) : scope;
        return Part.list(48, Part.leaf(Rows.integer(3)), Part.leaf(Rows.integer(1000)), Part.leaf(Rows.integer(level)),
                Part.leaf(Rows.integer(7)), Part.leaf(Rows.integer(-4)), Part.leaf(Rows.integer(70000)),
                Part.leaf(Rows.integer(1)), Part.leaf(Rows.octets(level == 0 ? "" : "ab")), Part.leaf(Rows.integer(0)), last);
    }

    private static Part binding(String name, int[] value) {
        return Part.list(48, Part.leaf(Rows.name(name)), Part.leaf(value));
    }

    private static void fault(String what, int[] row, int place) {
        Check.same("READING, " + what, place < 0 ? "no fault" : "fault " + place,
                BytesEdges.read(row).startsWith("fault") ? BytesEdges.read(row) : "no fault");
    }

    /** Each part in turn becomes other bytes. */
    private static void each(String what, java.util.function.UnaryOperator<int[]> wrong) {
        for (int level = 0; level <= 2; level++) {
            int many = whole(level).all().size();
            for (int i = 0; i < many; i++) {
                Part row = whole(level);
                Part part = row.all().get(i);
                part.wrong = wrong.apply(part.bytes());
                if (row.bytes().length <= 255) {
                    fault(what + ", LEVEL " + level + ", part " + i, row.bytes(), row.placeOf(part, 0));
                }
            }
        }
    }

    private static int[] withTag(int[] part, int tag) {
        int[] other = part.clone();
        other[0] = tag;
        return other;
    }

    private static void otherTags() {
        Doc.says("READING a row goes from its first byte on, part by part as a MESSAGE tells.",
                "FAULT: the place (from 0 on) of the TAG of the first part that is not as it has to be: another TAG than there can be");
        for (int level = 0; level <= 2; level++) {
            fault("all as it has to be", whole(level).bytes(), -1);
        }
        for (int tag : new int[] {0, 1, 3, 7, 47, 49, 64, 66, 68, 127, 131, 159, 168, 255}) {
            each("the TAG " + tag, part -> withTag(part, tag));
        }
        // A TAG that can be elsewhere.
        each("a NAME's TAG or a COUNTER's", part -> withTag(part, part[0] == 6 ? 65 : part[0] == 4 || part[0] == 5 ? 48 : 6));
    }

    private static void wrongLengths() {
        each("a LENGTH 128", part -> Rows.of(part[0], 128));
        each("a LENGTH in two bytes", part -> Rows.of(part[0], 130, 0, 1));
        each("a LENGTH below 128 behind 129", part -> Rows.join(Rows.of(part[0], 129, 4), new int[4]));
        each("a LENGTH beyond all", part -> Rows.of(part[0], 129, 255));
        // The last part ends the row: without its last byte it goes beyond.
        for (int level = 0; level <= 2; level++) {
            Part row = whole(level);
            int[] bytes = row.bytes();
            for (int i = 1; i < bytes.length; i++) {
                fault("cut at " + i, java.util.Arrays.copyOf(bytes, i), 0);
            }
        }
    }

    /** INTEGERS that are not in the fewest bytes, wherever one stands. */
    private static void numbersAtEachPlace() {
        int[][] wrongs = {{2, 0}, {2, 2, 0, 1}, {2, 2, 0, 127}, {2, 2, 255, 128}, {2, 3, 0, 0, 200}, {2, 3, 255, 255, 0},
            {2, 5, 1, 0, 0, 0, 0}, {2, 6, 1, 2, 3, 4, 5, 6}, {2, 8, 1, 0, 0, 0, 0, 0, 0, 1}, {2, 5, 0, 128, 0, 0, 0}, {2, 4, 255, 128, 0, 0}, {2, 4, 0, 127, 255, 255}};
        for (int[] wrong : wrongs) {
            each("not in the fewest bytes", part -> part[0] == 2 ? wrong : withTag(part, 0));
        }
        int[][] rights = {{2, 1, 127}, {2, 2, 0, 128}, {2, 1, 128}, {2, 2, 255, 127}, {2, 3, 255, 127, 255}, {2, 4, 127, 255, 255, 255},
            {2, 4, 128, 0, 0, 0}};
        for (int[] right : rights) {
            for (int i = 0; i < whole(0).all().size(); i++) {
                Part row = whole(0);
                Part part = row.all().get(i);
                // The first INTEGER, LEVEL and SALT may not be just any.
                boolean isAny = part.bytes()[0] == 2 && part != row.parts.get(0) && part != row.parts.get(2) && part != row.parts.get(8);
                if (isAny) {
                    part.wrong = right;
                    fault("in the fewest bytes, part " + i, row.bytes(), -1);
                }
            }
        }
    }

    private static void missingParts() {
        Doc.says("Of a part that is missing the place where what it stands in ends");
        for (int level = 0; level <= 2; level++) {
            for (int i = 0; i < whole(level).all().size(); i++) {
                int parts = whole(level).all().get(i).parts.size();
                // The LIST of the three BINDINGS alone may have fewer.
                boolean isBindings = parts == 3;
                for (int keep = 0; keep < parts; keep++) {
                    Part row = whole(level);
                    Part part = row.all().get(i);
                    part.parts.subList(keep, parts).clear();
                    fault("LEVEL " + level + ", part " + i + " keeps " + keep, row.bytes(),
                            isBindings ? -1 : row.placeOf(part, 0) + part.bytes().length);
                }
            }
        }
    }

    private static void bytesBehind() {
        Doc.says("of bytes behind a last part the place where they begin.");
        int[][] behinds = {{0}, {5, 0}, {48, 0}, {2, 1, 0}};
        for (int level = 0; level <= 2; level++) {
            for (int[] behind : behinds) {
                for (int i = 0; i < whole(level).all().size(); i++) {
                    Part row = whole(level);
                    Part part = row.all().get(i);
                    if (!part.parts.isEmpty()) {
                        part.behind = behind;
                        int place = row.placeOf(part, 0) + part.bytes().length - behind.length;
                        boolean isEmptyBinding = part.parts.size() == 3 && behind[0] == 48;
                        fault("bytes behind in part " + i, row.bytes(), isEmptyBinding ? place + 2 : place);
                    }
                }
                int[] bytes = whole(level).bytes();
                fault("bytes behind the MESSAGE", Rows.join(bytes, behind), bytes.length);
            }
        }
    }

    private static void partsBeforeTheirLists() {
        Doc.says("Parts within a part are read as they come", "a LIST itself is wrong by TAG and LENGTH alone.");
        int[] name = Rows.name("1.2");
        int[] value = Rows.octets("abc");
        int[] binding = Rows.list(name, value);
        int[] row = Rows.plain(1, 2, Rows.scope(0, Rows.pdu(0, 5, 0, 0, binding, binding)));
        int second = row.length - binding.length;
        int first = second - binding.length;
        int[] lengths = {0, 1, 3, 4, 5, 8};
        int[] places = {2, 2, 2, 6, 6, 6};
        for (int i = 0; i < lengths.length; i++) {
            // A LENGTH that is too small is the fault of what goes beyond it, or is missing.
            int[] wrong = row.clone();
            wrong[first + 1] = lengths[i];
            fault("a BINDING of " + lengths[i] + " bytes", wrong, first + places[i]);
        }
        int[] longer = row.clone();
        longer[first + 1]++;
        fault("a BINDING with the next one's TAG within", longer, second);
        int[] beyond = row.clone();
        beyond[second + 1]++;
        fault("a BINDING that goes beyond its LIST", beyond, second);
        int list = first - 2;
        int[] shorter = row.clone();
        shorter[list + 1]--;
        fault("a LIST of BINDINGS without its last byte", shorter, second);
        int[] none = row.clone();
        none[list + 1] = 0;
        fault("a LIST of no BINDINGS, with bytes behind", none, first);
        int[] wide = row.clone();
        wide[list + 1]++;
        fault("a LIST of BINDINGS that goes beyond its PDU", wide, list);
    }

    private static void theFirstOne() {
        int many = whole(1).all().size();
        for (int i = 1; i < many; i++) {
            for (int j = 1; j < i; j++) {
                Part row = whole(1);
                List<Part> all = row.all();
                if (all.get(i).parts.isEmpty() && all.get(j).parts.isEmpty()) {
                    all.get(i).wrong = withTag(all.get(i).bytes(), 0);
                    all.get(j).wrong = withTag(all.get(j).bytes(), 0);
                    fault("two are wrong, " + j + " and " + i, row.bytes(), row.placeOf(all.get(j), 0));
                }
            }
        }
    }

    /** Behind the number that makes a NAME wrong something stands that looks like a part. */
    private static void partsWithinAWrongName() {
        int[][] wrongs = {{128, 5}, {128, 127}, {135, 104}, {255, 127}, {129, 128}, {129, 255}, {1, 2, 3, 4, 5, 6, 7, 8, 9}};
        int[][] behind = {{6, 1, 5}, {6, 0}, {2, 1, 5}, {2, 2, 0, 0}, {4, 1, 65}, {4, 13, 1}, {5, 0}, {48, 2, 6, 0}, {}};
        for (int[] wrong : wrongs) {
            for (int[] then : behind) {
                each("a NAME that is wrong, and bytes behind that", part -> part[0] == 6 ? Rows.part(6, wrong, then) : withTag(part, 0));
            }
        }
    }

    private static void soundRows() {
        Doc.says("(So a row whose READING has no FAULT is what a MESSAGE is encoded to, of the LEVEL 2 with some bytes as the "
                + "ciphered ones.)");
        for (int level = 0; level <= 2; level++) {
            Agenttree x = new Agenttree();
            Talk.lay(x, whole(level).bytes());
            x.inject(0);
            Check.same("without a FAULT", -1, x.ofRow(0, 3));
            Check.is("isSound()", x.isSound());
            for (int place = 0; place < x.ofRow(0, 2); place += 3) {
                x.spoil(0, place, x.byteOf(0, place) ^ 1);
            }
            Check.is("isSound() with a FAULT", x.isSound());
        }
        int[][] values = {Rows.integer(-2147483648), Rows.number(65, 65535), Rows.number(67, 2147483647), Rows.empty(130),
            Rows.octets(""), Rows.octets("abcdefghijkl"), Rows.name("0.127.128.999"), Rows.empty(128)};
        for (int[] value : values) {
            Agenttree x = new Agenttree();
            Talk.lay(x, Rows.open(-2147483648, 0, -129, 2147483647, -1, Rows.scope(128, Rows.pdu(7, -1, 127, 32768,
                    Rows.binding("999.0", value), Rows.binding("1.2.3.4.5.6.7.8", value)))));
            x.inject(1);
            Check.same("without a FAULT", -1, x.ofRow(0, 3));
            Check.is("isSound()", x.isSound());
        }
    }

    /** What is deciphered is READ like a SCOPE: each wrong part counts 4.8.0. */
    private static void cipheredOnes() {
        Doc.says("Of the LEVEL 2: what is deciphered is READ as a SCOPE");
        Part scope = whole(0).parts.get(9);
        int parts = scope.all().size();
        for (int i = 0; i <= parts; i++) {
            Part wrong = whole(0).parts.get(9);
            if (i < parts) {
                Part part = wrong.all().get(i);
                part.wrong = withTag(part.bytes(), 0);
            }
            Agenttree x = new Agenttree();
            Talk.come(x, 0, Rows.sealed(9, 2, 7, 1, 0, 0, 1000, 0, wrong.bytes()));
            Check.same("ciphered, part " + i + " wrong", i < parts ? "c1" : "c0", Talk.value(x, 0, "4.8.0"));
        }
    }

    private static void emptyAndCutRows() {
        Check.same("no byte", "fault 0", BytesEdges.read(new int[0]));
        fault("a TAG alone", Rows.of(48), 0);
        fault("another byte alone", Rows.of(0), 0);
        fault("a MESSAGE of nothing", Rows.of(48, 0), 2);
        fault("a MESSAGE of nothing with a byte behind", Rows.of(48, 0, 3), 2);
        fault("a MESSAGE of a TAG", Rows.of(48, 1, 2), 2);
        fault("a MESSAGE of an INTEGER", Rows.of(48, 3, 2, 1, 3), 5);
        int[] row = new int[255];
        java.util.Arrays.fill(row, 48);
        fault("255 bytes 48", row, 2);
        java.util.Arrays.fill(row, 255);
        fault("255 bytes 255", row, 0);
    }
}
