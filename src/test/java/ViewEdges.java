import java.util.TreeSet;

/** Section 4 of the document: USERS at first, FAMILIES, MASKS, and which NAMES a VIEW HAS. */
final class ViewEdges {
    private ViewEdges() {
    }

    static void run() {
        usersAtFirst();
        viewsAtFirst();
        oneOfEachNameAndMask();
        masks();
        masksBeyondTheName();
        asManyNumbers();
        mostNumbers();
        greatestName();
        greatestMask();
        ofNone();
        thoseThatWent();
        othersThatCome();
        noView();
        viewsOfAllUsers();
    }

    private static void usersAtFirst() {
        Doc.says("USERS 0 to 4, each known to the agent or not (0 and 1 are at first), with a KEY (at first 1000 and the USER's "
                + "number), a HIGHEST level (2 at first), and for each CONTEXT a LEAST level (0 at first) and a READ, a WRITE "
                + "and a NOTE VIEW (0 to 3, or NONE; at first all 0 of the CONTEXT 0, all NONE of the CONTEXT 1).");
        Doc.promise(21, "Returns that.");
        Agenttree x = new Agenttree();
        for (int user = 0; user <= 4; user++) {
            int[] due = {user < 2 ? 1 : 0, 1000 + user, 2, 0, 0, 0, 0, 0, -1, -1, -1};
            for (int what = 0; what <= 10; what++) {
                Check.same("at first: ofUser(" + user + ", " + what + ")", due[what], x.ofUser(user, what));
            }
        }
        for (int user = 0; user <= 4; user++) {
            Agenttree y = new Agenttree();
            Check.same("was it known", user < 2 ? 1 : 0, y.user(user, user > 1, 9999 - user, user % 3));
            Check.same("is it known", user < 2 ? 0 : 1, y.user(user, user > 1, 9999 - user, user % 3));
            Check.same("LEAST before", 0, y.access(user, 0, 1, -1, 3, 2));
            Check.same("LEAST of the other CONTEXT", 0, y.access(user, 1, 2, 3, 2, -1));
            int[] due = {user > 1 ? 1 : 0, 9999 - user, user % 3, 1, -1, 3, 2, 2, 3, 2, -1};
            for (int other = 0; other <= 4; other++) {
                for (int what = 0; what <= 10; what++) {
                    Check.same("then: ofUser(" + other + ", " + what + ")", other == user ? due[what] : x.ofUser(other, what),
                            y.ofUser(other, what));
                }
            }
        }
    }

    private static void viewsAtFirst() {
        Doc.says("At first the VIEW 0 has one FAMILY: 1, MASK 0, IN", "the others none.");
        Agenttree x = new Agenttree();
        for (int view = 0; view < 4; view++) {
            Check.same("FAMILIES at first", view == 0 ? "1/0+" : "", x.families(view));
        }
        String[] names = {"1", "1.0", "1.9.9.9.9.9.9.9", "0", "2", "10.1"};
        for (String name : names) {
            Talk.hold(x, name);
            for (int view = 0; view < 4; view++) {
                Check.same("VIEW " + view + " HAS " + name, view == 0 && name.matches("1(\\..*)?"), x.has(view));
            }
        }
    }

    private static void put(Agenttree x, String name, int mask, boolean isIn) {
        Talk.hold(x, name);
        x.family(1, mask, isIn);
    }

    private static void has(Agenttree x, String name, boolean due) {
        Talk.hold(x, name);
        Check.same("HAS " + name + " by " + x.families(1), due, x.has(1));
    }

    private static void oneOfEachNameAndMask() {
        Doc.says("No two of a VIEW have the same NAME and MASK.");
        Doc.promise(22, "Returns how many it has then.");
        Doc.promise(24, "Returns its FAMILIES by ORDER of their NAMES (of the same by rising MASKS), with \", \" between: the NAME, "
                + "\"/\", the MASK, and \"+\" if it is IN, otherwise \"-\".");
        Agenttree x = new Agenttree();
        Check.same("none", "", x.families(1));
        Talk.hold(x, "5.5");
        Check.same("one", 1, x.family(1, 255, true));
        Check.same("the same again", 1, x.family(1, 255, true));
        Check.same("the same OUT", 1, x.family(1, 255, false));
        Check.same("written", "5.5/255-", x.families(1));
        Check.same("another MASK", 2, x.family(1, 254, true));
        Talk.hold(x, "5.5.0");
        Check.same("a longer NAME", 3, x.family(1, 255, true));
        Talk.hold(x, "5");
        Check.same("a shorter NAME", 4, x.family(1, 255, true));
        Talk.hold(x, "5.10");
        Check.same("a greater NAME", 5, x.family(1, 0, false));
        Talk.hold(x, "5.5");
        Check.same("a third MASK", 6, x.family(1, 0, false));
        Check.same("by ORDER and MASKS", "5/255+, 5.5/0-, 5.5/254+, 5.5/255-, 5.5.0/255+, 5.10/0-", x.families(1));
        Check.same("the same in another VIEW", 1, x.family(2, 0, true));
        Doc.promise(23, "Returns how many it has then;");
        int[] masks = {0, 255, 254};
        for (int i = 0; i < 3; i++) {
            Check.same("one goes", 5 - i, x.unfamily(1, masks[i]));
        }
        Check.same("those that stay", "5/255+, 5.5.0/255+, 5.10/0-", x.families(1));
        for (String name : new String[] {"5.10", "5", "5.5.0"}) {
            Talk.hold(x, name);
            x.unfamily(1, name.equals("5.10") ? 0 : 255);
        }
        Check.same("none again", "", x.families(1));
    }

    private static void masks() {
        Doc.says("a NAME, a MASK (a set of places 0 to 7, as the sum of 2^place: at these places each number is right), and "
                + "whether it is IN or OUT.", "A NAME is OF a FAMILY, if it has at least as many numbers, and at each place of the "
                + "FAMILY that is not in its MASK the same one.");
        int[] eight = {10, 11, 12, 13, 14, 15, 16, 17};
        for (int mask = 0; mask <= 255; mask = mask < 3 ? mask + 1 : mask * 2 + 1 > 255 && mask < 255 ? 255 : mask * 2 + 1) {
            masked(eight, mask);
        }
        for (int place = 0; place < 8; place++) {
            masked(eight, 1 << place);
            masked(eight, 255 - (1 << place));
        }
    }

    private static void masked(int[] eight, int mask) {
        Agenttree x = new Agenttree();
        put(x, "10.11.12.13.14.15.16.17", mask, true);
        has(x, "10.11.12.13.14.15.16.17", true);
        for (int place = 0; place < 8; place++) {
            for (int other : new int[] {0, 999, eight[place] + 1}) {
                StringBuilder name = new StringBuilder();
                for (int i = 0; i < 8; i++) {
                    name.append(i == 0 ? "" : ".").append(i == place ? other : eight[i]);
                }
                has(x, name.toString(), (mask >> place & 1) == 1);
            }
        }
    }

    /** Places of a MASK where the FAMILY has no number say nothing. */
    private static void masksBeyondTheName() {
        for (int mask : new int[] {0, 2, 4, 254}) {
            Agenttree x = new Agenttree();
            put(x, "7", mask, true);
            has(x, "7", true);
            has(x, "7.0.0", true);
            has(x, "8", false);
        }
        Agenttree y = new Agenttree();
        put(y, "7", 1, true);
        has(y, "0", true);
        has(y, "999.1.2.3.4.5.6.7", true);
    }

    private static void asManyNumbers() {
        String eight = "1.2.3.4.5.6.7.8";
        for (int numbers = 1; numbers <= 8; numbers++) {
            for (int mask : new int[] {0, 255}) {
                Agenttree x = new Agenttree();
                put(x, eight.substring(0, 2 * numbers - 1), mask, true);
                for (int have = 1; have <= 8; have++) {
                    has(x, eight.substring(0, 2 * have - 1), have >= numbers);
                }
            }
        }
    }

    private static void mostNumbers() {
        Doc.says("A VIEW HAS a NAME, if of the FAMILIES it is OF that one is IN that has the most numbers");
        boolean[] orders = {false, true};
        for (boolean isShortFirst : orders) {
            for (boolean isLongIn : orders) {
                Agenttree x = new Agenttree();
                String[] names = {"9.9", "0.0.0"};
                for (int i = 0; i < 2; i++) {
                    int which = isShortFirst ? i : 1 - i;
                    // The shorter one has the greater NAME and the greater MASK.
                    put(x, names[which], which == 0 ? 255 : 7, which == 0 ? !isLongIn : isLongIn);
                }
                has(x, "9.9.9", isLongIn);
                has(x, "9.9", !isLongIn);
                has(x, "9", false);
            }
        }
    }

    private static void greatestName() {
        Doc.says("(of several that with the greatest NAME by ORDER,");
        String[][] pairs = {{"1.2.3", "1.2.4"}, {"1.2.3", "1.3.0"}, {"1.999.999", "2.0.0"}, {"9.0.0", "10.0.0"}};
        for (String[] pair : pairs) {
            for (int first = 0; first < 2; first++) {
                for (int in = 0; in < 2; in++) {
                    Agenttree x = new Agenttree();
                    // The lower one has the greater MASK.
                    for (int i = 0; i < 2; i++) {
                        int which = i == 0 ? first : 1 - first;
                        put(x, pair[which], which == 0 ? 255 : 7, which == in);
                    }
                    has(x, "5.5.5", in == 1);
                    has(x, "5.5.5.5", in == 1);
                }
            }
        }
    }

    private static void greatestMask() {
        Doc.says("then with the greatest MASK)");
        int[][] pairs = {{7, 15}, {7, 255}, {15, 23}, {127, 135}};
        for (int[] pair : pairs) {
            for (int first = 0; first < 2; first++) {
                for (int in = 0; in < 2; in++) {
                    Agenttree x = new Agenttree();
                    for (int i = 0; i < 2; i++) {
                        int which = i == 0 ? first : 1 - first;
                        put(x, "1.2.3", pair[which], which == in);
                    }
                    has(x, "5.5.5", in == 1);
                    Check.is("isSound()", x.isSound());
                }
            }
        }
        Agenttree x = new Agenttree();
        put(x, "1.2.3", 1, true);
        put(x, "1.2.3", 2, false);
        // Only one of the two lets it be OF it.
        has(x, "9.2.3", true);
        has(x, "1.9.3", false);
        has(x, "1.2.3", false);
        has(x, "9.9.3", false);
    }

    private static void ofNone() {
        Doc.says("it has not, if there is none.");
        Doc.promise(25, "Returns whether it HAS the NAME in HAND.");
        Agenttree x = new Agenttree();
        has(x, "1", false);
        put(x, "1.1", 0, true);
        has(x, "1.1", true);
        has(x, "1", false);
        has(x, "1.2", false);
        has(x, "2.1", false);
        put(x, "1.1", 0, false);
        has(x, "1.1", false);
        Talk.hold(x, "1.1");
        x.unfamily(1, 0);
        has(x, "1.1", false);
    }

    /** FAMILIES that went are none any more, whichever went. */
    private static void thoseThatWent() {
        for (int gone = 0; gone < 6; gone++) {
            for (int many = gone + 1; many <= 6; many++) {
                Agenttree x = new Agenttree();
                for (int i = 0; i < many; i++) {
                    put(x, 3 + i + ".1", 0, true);
                }
                Talk.hold(x, 3 + gone + ".1");
                Check.same("one goes", many - 1, x.unfamily(1, 0));
                for (int i = 0; i < many; i++) {
                    has(x, 3 + i + ".1", i != gone);
                }
                Check.is("isSound()", x.isSound());
                Talk.hold(x, 3 + gone + ".1");
                Check.same("it comes again", many, x.family(1, 0, true));
                has(x, 3 + gone + ".1.0", true);
            }
        }
    }

    /** Of six, two go and two others come, ahead of all, between them, or behind. */
    private static void othersThatCome() {
        String[][] others = {{"1", "2.5"}, {"1", "9"}, {"8", "9"}, {"4.5", "5.5"}, {"9", "1"}};
        for (int gone = 0; gone < 36; gone++) {
            for (String[] other : others) {
                Agenttree x = new Agenttree();
                TreeSet<String> due = new TreeSet<>();
                for (int i = 0; i < 6; i++) {
                    put(x, 2 + i + ".7", i, i % 2 == 0);
                    due.add(2 + i + ".7/" + i + (i % 2 == 0 ? "+" : "-"));
                }
                for (int i : new int[] {gone / 6, gone % 6}) {
                    Talk.hold(x, 2 + i + ".7");
                    x.unfamily(1, i);
                    due.remove(2 + i + ".7/" + i + (i % 2 == 0 ? "+" : "-"));
                }
                for (String name : other) {
                    if (due.size() < 6) {
                        put(x, name, 0, true);
                        due.add(name + "/0+");
                    }
                }
                Check.same("families()", String.join(", ", due), x.families(1));
            }
        }
    }

    private static void noView() {
        Doc.promise(10, "Returns the NAMES of all OBJECTS that are there, and which the READ VIEW of the USER has, by ORDER, with a "
                + "blank between; \"\" without such a VIEW.");
        Agenttree x = new Agenttree();
        for (int user = 0; user <= 4; user++) {
            Check.same("by the VIEW 0", "1.1.0 1.2.0 1.3.0", x.walk(user, 0));
            Check.same("without a VIEW", "", x.walk(user, 1));
            x.access(user, 1, 2, 0, -1, -1);
            Check.same("with one, whatever LEAST is", "1.1.0 1.2.0", x.walk(user, 1));
            x.access(user, 0, 0, -1, 0, 0);
            Check.same("a READ VIEW that is NONE", "", x.walk(user, 0));
            x.access(user, 0, 0, 3, 0, 0);
            Check.same("a READ VIEW without FAMILIES", "", x.walk(user, 0));
        }
        Talk.hold(x, "4.8.0");
        x.family(3, 0, true);
        Check.same("just one", "4.8.0", x.walk(4, 0));
        Check.is("isSound()", x.isSound());
    }

    private static void viewsOfAllUsers() {
        Doc.promise(19, "Returns 1 if it was known, otherwise 0.");
        Doc.promise(20, "Returns LEAST before.");
        Agenttree x = new Agenttree();
        Check.same("known", 1, x.user(0, true, 0, 0));
        Check.same("still known", 1, x.user(0, false, 0, 0));
        Check.same("no more", 0, x.user(0, false, 0, 0));
        Check.same("and again", 0, x.user(0, true, 0, 0));
        Check.same("known then", 1, x.ofUser(0, 0));
        for (int user = 0; user <= 4; user++) {
            for (int context = 0; context < 2; context++) {
                Check.same("LEAST 0", 0, x.access(user, context, 2, 0, 0, 0));
                Check.same("LEAST 2", 2, x.access(user, context, 1, 0, 0, 0));
                Check.same("LEAST 1", 1, x.access(user, context, 0, 0, 0, 0));
            }
        }
    }
}
