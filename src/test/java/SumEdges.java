import java.util.Arrays;

/** Section 2 of the document: SUMS, CIPHERS and SALTS at their edges. */
final class SumEdges {
    private static final int[] SCOPE = Rows.scope(0, Rows.pdu(0, 44, 0, 0, Rows.binding("1.2.0", Rows.empty(5))));

    private SumEdges() {
    }

    static void run() {
        sumsByKeys();
        sumsAtTheirModulus();
        ownBytesOfASum();
        bytesOfASum();
        keysOfUsers();
        ciphersByTheirEdges();
        undone();
        ciphersOfRowsOfAnyBoots();
        saltsOfAManager();
        saltsOfTheAgent();
        saltsOfLostRows();
    }

    private static Agenttree bench(int... bytes) {
        Agenttree x = new Agenttree();
        Talk.lay(x, bytes);
        return x;
    }

    private static void sumsByKeys() {
        Doc.says("SUM of a row by a KEY (0 to 9999): h begins with KEY",
                "then twice more, with KEY / 256 and KEY modulo 256 as if these were bytes.");
        Doc.promise(53, "Returns the SUM of the row on the BENCH by that");
        // KEY, SUM of no byte, of a 0, of a 255, of 1 to 5: worked out by hand.
        int[][] due = {{0, 258, 786, 4384, 6089}, {1, 787, 5441, 9039, 19984}, {255, 4111, 8433, 12031, 11180},
            {256, 4641, 13089, 16687, 25076}, {257, 5170, 17744, 21342, 38971}, {511, 8494, 20736, 24334, 30167},
            {512, 9024, 25392, 28990, 44063}, {9999, 48088, 26260, 29858, 37713}};
        for (int[] d : due) {
            Check.same("SUM of no byte by " + d[0], d[1], bench().sum(d[0]));
            Check.same("SUM of 0 by " + d[0], d[2], bench(0).sum(d[0]));
            Check.same("SUM of 255 by " + d[0], d[3], bench(255).sum(d[0]));
            Check.same("SUM of 1 to 5 by " + d[0], d[4], bench(1, 2, 3, 4, 5).sum(d[0]));
        }
        int[] full = new int[255];
        for (int b : new int[] {0, 128, 255}) {
            Arrays.fill(full, b);
            Check.same("SUM of 255 bytes " + b, Rows.sum(full, 9999, -1), bench(full).sum(9999));
        }
    }

    private static void sumsAtTheirModulus() {
        Doc.says("h becomes (h * 257 + byte + 1) modulo 65521");
        Check.same("SUM 0", 0, bench(100, 101).sum(0));
        Check.same("SUM 65520", 65520, bench(147, 59).sum(0));
        Check.same("SUM 0 by 9999", 0, bench(234, 74).sum(9999));
        Check.same("SUM 65520 by 9999", 65520, bench(26, 46).sum(9999));
        Check.same("SUM 255", 255, bench(139, 130).sum(0));
        Check.same("SUM 256", 256, bench(92, 172).sum(0));
        Check.same("SUM 65280", 65280, bench(170, 104).sum(0));
    }

    private static void ownBytesOfASum() {
        Doc.says("byte by byte (those two of the SUM taken as 0)");
        Doc.promise(53, "(its own two bytes taken as 0, if it has no FAULT, and LEVEL is 1 or 2)");
        int[] plain = Rows.plain(1, 2, SCOPE);
        Check.same("SUM of the LEVEL 0: all bytes count", Rows.sum(plain, 1003, -1), bench(plain).sum(1003));
        for (int level = 1; level <= 2; level++) {
            int[] row = Rows.sealed(9, level, 7, 1, 2, 3, 1003, 5, SCOPE);
            int place = 25;
            int due = row[place] * 256 + row[place + 1];
            for (int other : new int[] {0, 1, 255}) {
                int[] spoiled = row.clone();
                spoiled[place] = other;
                Check.same("its first byte counts as 0", due, bench(spoiled).sum(1003));
                spoiled[place + 1] = other;
                Check.same("its second byte counts as 0", due, bench(spoiled).sum(1003));
            }
            for (int at : new int[] {place - 1, place + 2, row.length - 1, 7}) {
                int[] spoiled = row.clone();
                spoiled[at] ^= 1;
                Agenttree x = bench(spoiled);
                int own = x.fault() >= 0 ? -1 : place;
                Check.same("another byte, at " + at, Rows.sum(spoiled, 1003, own), x.sum(1003));
                Check.is("another SUM", x.sum(1003) != due);
            }
            int[] faulty = Rows.join(row, Rows.of(0));
            Check.same("with a FAULT all bytes count", Rows.sum(faulty, 1003, -1), bench(faulty).sum(1003));
        }
    }

    private static void bytesOfASum() {
        Doc.says("Its bytes are h / 256 and h modulo 256.");
        int[] scope = Rows.scope(0, Rows.pdu(0, 0, 0, 0));
        boolean[] seen = new boolean[3];
        for (int key = 0; key <= 9999; key++) {
            int[] row = Rows.sealed(0, 1, 0, 0, 0, 0, key, 0, scope);
            int which = row[25] == 0 ? 0 : row[26] == 0 ? 1 : row[25] == 255 ? 2 : -1;
            if (which >= 0 && !seen[which]) {
                seen[which] = true;
                Agenttree x = new Agenttree();
                x.speak(0, 0, key);
                x.draft(0, 1, 0, 0, 0);
                x.send(0);
                Check.same("the bytes of a SUM by " + key, Arrays.toString(row), GuardTests.bytes(x));
                Check.same("as a number", "" + (row[25] * 256 + row[26]), x.rowText(0).split(" ")[6]);
            }
        }
        Check.is("SUMS with a byte of 0 and of 255", seen[0] && seen[1] && seen[2]);
    }

    /** KEYS 0 and 9999 are let like others: a row by each is let, one by the next to it is not. */
    private static void keysOfUsers() {
        for (int key : new int[] {0, 255, 256, 9999}) {
            for (int other : new int[] {key, key == 9999 ? 9998 : key + 1}) {
                for (int level = 1; level <= 2; level++) {
                    Agenttree x = new Agenttree();
                    x.user(0, true, key, 2);
                    Talk.come(x, 0, Rows.sealed(6, level, 7, 1, 0, 0, other, 0, SCOPE));
                    Check.same("the KEY " + key + " and a row by " + other, other == key ? "1 0 0 0 0 0 0 0" : "1 0 0 0 0 1 0 0",
                            Talk.counters(x));
                }
            }
        }
    }

    private static String bytes(Agenttree x) {
        x.inject(0);
        return GuardTests.bytes(x);
    }

    private static void ciphersByTheirEdges() {
        Doc.says("CIPHER by a KEY, BOOTS and SALT: x begins with (KEY * 7 + BOOTS * 11 + SALT * 13 + 5) modulo 65536",
                "for each byte in turn x becomes (x * 1103 + 12345) modulo 65536, and the byte becomes itself xor x / 256.");
        Doc.promise(54, "Returns the sum of all its bytes then.");
        // KEY, BOOTS, SALT, then what becomes of five bytes 0: worked out by hand. The second and third are above 65535.
        int[][] due = {{0, 0, 0, 69, 199, 165, 113, 194}, {9999, 999, 255, 7, 156, 233, 21, 133},
            {9362, 0, 0, 61, 166, 129, 231, 75}, {1000, 1, 7, 205, 42, 41, 211, 11}, {0, 999, 0, 56, 91, 117, 194, 91},
            {0, 0, 255, 16, 95, 222, 192, 255}};
        for (int[] d : due) {
            int[] cipher = Arrays.copyOfRange(d, 3, 8);
            Agenttree x = bench(0, 0, 0, 0, 0);
            Check.same("the sum of its bytes", Arrays.stream(cipher).sum(), x.cipher(d[0], d[1], d[2]));
            Check.same("bytes 0 ciphered", Arrays.toString(cipher), bytes(x));
            Agenttree y = bench(255, 255, 255, 255, 255);
            Check.same("the sum of its bytes", 5 * 255 - Arrays.stream(cipher).sum(), y.cipher(d[0], d[1], d[2]));
            Check.same("bytes 255 ciphered", Arrays.toString(Arrays.stream(cipher).map(b -> 255 - b).toArray()), bytes(y));
        }
        Check.same("no byte", 0, bench().cipher(9999, 999, 255));
        for (int cut = 1; cut <= 5; cut++) {
            Agenttree x = bench(200, 201, 202, 203, 204);
            x.cut(cut);
            int[] rest = Arrays.copyOf(new int[] {200, 201, 202, 203, 204}, 5 - cut);
            Check.same("the sum of those that stay", Arrays.stream(Rows.ciphered(rest, 1, 2, 3)).sum(), x.cipher(1, 2, 3));
            Check.same("the SUM of those that stay", Rows.sum(Rows.ciphered(rest, 1, 2, 3), 7, -1), x.sum(7));
        }
        int[] full = new int[255];
        Agenttree z = bench(full);
        Check.same("255 bytes", Arrays.stream(Rows.ciphered(full, 77, 88, 99)).sum(), z.cipher(77, 88, 99));
    }

    private static void undone() {
        Doc.says("(So it is undone by the same.)");
        int[] row = Rows.plain(1, 2, SCOPE);
        for (int[] by : new int[][] {{0, 0, 0}, {9999, 999, 255}, {1, 2, 3}}) {
            Agenttree x = bench(row);
            x.cipher(by[0], by[1], by[2]);
            Check.is("ciphered it is another one", x.fault() >= 0);
            Check.same("the sum as before", Arrays.stream(row).sum(), x.cipher(by[0], by[1], by[2]));
            Check.same("as before", Arrays.toString(row), bytes(x));
        }
    }

    /** A MANAGER deciphers by BOOTS of the row, whatever they are: modulo tells 0 and more, and wraps around. */
    private static void ciphersOfRowsOfAnyBoots() {
        Doc.says("\"/\" rounds down, \"modulo\" tells 0 and more.");
        int[] scope = Rows.scope(0, Rows.pdu(5, 44, 0, 0, Rows.binding("1.2.0", Rows.empty(5))));
        for (int boots : new int[] {-1, -5, -6000, -2147483648, 2147483647, 65536, 5958}) {
            Agenttree x = new Agenttree();
            Forge.toManager(x, 0, Rows.sealed(8, 2, 9, boots, 0, 0, 1000, 255, scope));
            Check.same("dropped, BOOTS " + boots, 0, x.ofManager(0, 9));
            Check.same("told, BOOTS " + boots, boots + " 0 trap 44 0 0, 1.2.0=null",
                    x.ofManager(0, 8) == 1 ? x.told(0, 0) : "nothing");
        }
    }

    private static String salt(Agenttree x, int k) {
        return x.rowText(k).split(" ")[7].replace(":", "");
    }

    private static void saltsOfAManager() {
        Doc.says("SALT of what is SENT: how many rows of the LEVEL 2 were SENT by that side (the agent, or a MANAGER) before, "
                + "modulo 256.");
        Agenttree x = new Agenttree();
        for (int n = 0; n <= 257; n++) {
            if (n == 5 || n == 200) {
                // A row of another LEVEL, and one of the other MANAGER, do not count.
                x.draft(0, 1, 0, 0, 0);
                x.send(0);
                Check.same("SALT of the LEVEL 1", "0", salt(x, x.rows() - 1));
                x.draft(0, 2, 0, 0, 0);
                x.send(1);
                Check.same("SALT of the other one", n == 5 ? "0" : "1", salt(x, x.rows() - 1));
                x.passAll(40);
            } else if (n == 0) {
                x.draft(0, 2, 0, 0, 0);
            }
            x.send(0);
            if (n < 2 || n % 128 < 2 || n % 128 > 126) {
                Check.same("SALT of the row " + n, "" + n % 256, salt(x, x.rows() - 1));
            }
            if (n % 15 == 0) {
                x.passAll(40);
            }
        }
        Check.same("all of them", 258, x.ofManager(0, 10));
    }

    private static void saltsOfTheAgent() {
        Agenttree x = new Agenttree();
        Talk.learn(x, 0);
        x.draft(0, 2, 0, 0, 0);
        for (int round = 0; round < 17; round++) {
            for (int i = 0; i < 16; i++) {
                x.send(0);
            }
            x.passAll(16);
            for (int k : new int[] {0, 15}) {
                Check.same("SALT of the agent", "" + (16 * round + k) % 256, salt(x, k));
            }
            x.passAll(40);
        }
        Check.same("all of them", 17 * 16, x.ofAgent(8));
        Check.same("each was deciphered", 17 * 16 + 1, x.ofManager(0, 7));
        Check.same("of the MANAGER, likewise", 17 * 16, x.ofManager(0, 10));
    }

    /** What is LOST at once counts for the SALT; what is REFUSED, laid or doubled does not. */
    private static void saltsOfLostRows() {
        Agenttree x = new Agenttree();
        Talk.learn(x, 0);
        x.target(0, true, 0, 0, 2, false);
        x.draft(0, 2, 0, 0, 0);
        for (int i = 0; i < 16; i++) {
            x.send(0);
        }
        x.restart();
        x.restart();
        Check.same("two are LOST at once", 2, x.house(1));
        Check.same("they count for the agent's SALT", 2, x.ofAgent(8));
        x.send(0);
        Check.same("what is REFUSED does not count", 16, x.ofManager(0, 10));
        x.lose(0);
        x.twice(0);
        Check.same("what is doubled does not count", 16, x.ofManager(0, 10));
        x.lose(0);
        x.restart();
        Check.same("the next SALT", "2", salt(x, 15));
        x.lose(3);
        x.send(0);
        Check.same("the next SALT of the MANAGER", "16", salt(x, 15));
    }
}
