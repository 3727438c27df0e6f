/** Short ways to say what many tests say. */
final class Talk {
    static final int GET = 0;
    static final int NEXT = 1;
    static final int SET = 3;
    static final int BULK = 4;

    private Talk() {
    }

    static int[] numbers(String name) {
        String[] parts = name.split("\\.");
        int[] numbers = new int[parts.length];
        for (int i = 0; i < parts.length; i++) {
            numbers[i] = Integer.parseInt(parts[i]);
        }
        return numbers;
    }

    /** Takes a NAME in HAND. */
    static void hold(Agenttree x, String name) {
        int[] n = numbers(name);
        x.name(n[0], at(n, 1), at(n, 2), at(n, 3));
        if (n.length > 4) {
            x.longer(at(n, 4), at(n, 5), at(n, 6), at(n, 7));
        }
    }

    private static int at(int[] n, int place) {
        return place < n.length ? n[place] : -1;
    }

    /** The OCTETS in HAND become those of a text. */
    static void spell(Agenttree x, String text) {
        x.noLetters();
        int[] signs = text.chars().toArray();
        for (int i = 0; i < signs.length; i += 5) {
            x.letters(signs[i], at(signs, i + 1), at(signs, i + 2), at(signs, i + 3), at(signs, i + 4));
        }
    }

    /** Adds BINDINGS to the DRAFT: "NAME", "NAME=number" or "NAME='signs'". */
    static void bind(Agenttree x, String... bindings) {
        for (String binding : bindings) {
            int at = binding.indexOf('=');
            hold(x, at < 0 ? binding : binding.substring(0, at));
            if (at < 0) {
                x.bind(0, 0);
            } else if (binding.charAt(at + 1) == '\'') {
                spell(x, binding.substring(at + 2, binding.length() - 1));
                x.bind(2, 0);
            } else {
                x.bind(1, Integer.parseInt(binding.substring(at + 1)));
            }
        }
    }

    /** A MANAGER asks (ahead of all that is under way nothing may be), and gets its ANSWER. */
    static String ask(Agenttree x, int manager, int kind, int level, int context, String... bindings) {
        return askMany(x, manager, kind, level, context, 0, 0, bindings);
    }

    static String askMany(Agenttree x, int manager, int kind, int level, int context, int few, int many,
            String... bindings) {
        x.draft(kind, level, context, few, many);
        bind(x, bindings);
        return sendAndPass(x, manager);
    }

    static String sendAndPass(Agenttree x, int manager) {
        if (x.send(manager) < 0) {
            return "refused";
        }
        int answers = x.ofManager(manager, 7);
        x.pass(x.rows() - 1);
        if (x.rows() > 0) {
            x.pass(0);
        }
        return x.ofManager(manager, 7) == answers ? "no answer" : x.answer(manager);
    }

    /** Lets a MANAGER learn ENGINE, BOOTS and TIME. */
    static void learn(Agenttree x, int manager) {
        ask(x, manager, GET, 0, 0);
    }

    static void hold(Agenttree x) {
        x.name(1, -1, -1, -1);
    }

    /** The BENCH gets just these bytes. */
    static void lay(Agenttree x, int[] row) {
        x.cut(255);
        for (int i = 0; i < row.length; i += 5) {
            x.lay(row[i], at(row, i + 1), at(row, i + 2), at(row, i + 3), at(row, i + 4));
        }
    }

    /** A row that is laid comes to the agent, from a MANAGER. */
    static void come(Agenttree x, int manager, int[] row) {
        lay(x, row);
        x.inject(manager);
        x.pass(x.rows() - 1);
    }

    static String value(Agenttree x, int context, String name) {
        hold(x, name);
        return x.value(context);
    }

    /** The COUNTERS of the agent, 4.1.0 to 4.8.0. */
    static String counters(Agenttree x) {
        StringBuilder text = new StringBuilder();
        for (int i = 1; i <= 8; i++) {
            text.append(i == 1 ? "" : " ").append(value(x, 0, "4." + i + ".0").substring(1));
        }
        return text.toString();
    }

    static void seeAll(Agenttree x) {
        for (int i = 2; i <= 4; i++) {
            x.name(i, -1, -1, -1);
            x.family(0, 0, true);
        }
    }
}
