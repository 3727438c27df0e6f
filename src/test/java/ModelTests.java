import java.lang.reflect.InvocationTargetException;
import java.lang.reflect.Method;
import java.util.ArrayList;
import java.util.HashMap;
import java.util.List;
import java.util.Map;

/** Long runs of calls, always the same ones: the class answers what the Model answers. */
final class ModelTests {
    // With the last two of go() an object is used for 512.
    private static final int CALLS = 510;
    private static final int[] STRANGE = {-2147483648, -10, -9, -2, -1, 0, 1, 2, 3, 4, 5, 6, 8, 9, 10, 12, 16, 40, 41, 99, 100,
        127, 128, 254, 255, 256, 999, 1000, 9999, 10000, 65535, 65536, 2147483647};

    private static final Map<String, Method> CLASS = methods(Agenttree.class);
    private static final Map<String, Method> MODEL = methods(Model.class);

    private final Agenttree x = new Agenttree();
    private final Model model = new Model();
    private final List<String> log = new ArrayList<>();
    private long seed;
    private int calls;
    private boolean isRight = true;

    private ModelTests(long seed) {
        this.seed = seed * 7919 + 17;
    }

    static void run() {
        int runs = Integer.getInteger("runs", 400);
        int first = Integer.getInteger("first", 1);
        int wrong = 0;
        for (int run = first; run < first + runs && wrong < 5; run++) {
            ModelTests test = new ModelTests(run);
            test.go();
            Check.is("run " + run + " beside the Model", test.isRight);
            wrong += test.isRight ? 0 : 1;
        }
    }

    private static Map<String, Method> methods(Class<?> of) {
        Map<String, Method> all = new HashMap<>();
        for (Method method : of.getDeclaredMethods()) {
            if (java.lang.reflect.Modifier.isPublic(method.getModifiers())) {
                all.put(method.getName(), method);
            }
        }
        return all;
    }

    private int any(int many) {
        seed = seed * 6364136223846793005L + 1442695040888963407L;
        return (int) Math.floorMod(seed >>> 33, (long) many);
    }

    private boolean rarely(int of) {
        return any(of) == 0;
    }

    private static Object answer(Map<String, Method> methods, Object on, String name, Object[] arguments) {
        try {
            return methods.get(name).invoke(on, arguments);
        } catch (InvocationTargetException e) {
            return e.getCause().getClass();
        } catch (IllegalAccessException e) {
            return e;
        }
    }

    private Object call(String name, Object... arguments) {
        if (!isRight || calls >= CALLS) {
            return 0;
        }
        calls++;
        if (rarely(40)) {
            for (int i = 0; i < arguments.length; i++) {
                if (arguments[i] instanceof Integer && rarely(2)) {
                    arguments[i] = STRANGE[any(STRANGE.length)];
                }
            }
        }
        Object due = answer(MODEL, model, name, arguments);
        Object got = answer(CLASS, x, name, arguments);
        String row = name + java.util.Arrays.toString(arguments) + " -> " + got;
        log.add(row);
        if (!due.equals(got)) {
            isRight = false;
            for (String one : log.subList(Math.max(0, log.size() - 40), log.size())) {
                System.out.println("    " + one);
            }
            System.out.println("    due is " + due);
        }
        return got;
    }

    private void go() {
        if (!rarely(5)) {
            for (int i = 2; i <= 4; i++) {
                call("name", i, -1, -1, -1);
                call("family", 0, 0, true);
            }
            call("access", 0, 1, 0, 0, 0, 0);
        }
        if (!rarely(3)) {
            call("send", 0);
            call("send", 1);
            call("passAll", 40);
        }
        while (isRight && calls < CALLS) {
            step();
            if (rarely(25)) {
                call("digest");
                call("isSound");
            }
        }
        calls = 0;
        call("digest");
        call("isSound");
    }

    private void step() {
        switch (any(12)) {
            case 0: around(); break;
            case 1: people(); break;
            case 2: hands(); break;
            case 3:
            case 4: request(); break;
            case 5: line(); break;
            case 6: forge(); break;
            case 7: asks(); break;
            case 8: call("tick", rarely(3) ? 1 + any(40) : 1 + any(6)); break;
            case 9: notices(); break;
            default: passes(); break;
        }
    }

    private void around() {
        switch (any(7)) {
            case 0: call("port", 1 + any(4), rarely(2)); break;
            case 1: call("traffic", 1 + any(4), any(65536), any(65536)); break;
            case 2: call("most", 100 + any(156)); break;
            case 3:
                if (rarely(4)) {
                    call("restart");
                }
                break;
            case 4: call("knock"); break;
            default: call("note", any(2), 1 + any(3), 1 + any(4), !rarely(3)); break;
        }
    }

    private void people() {
        switch (any(8)) {
            case 0: call("user", any(5), !rarely(4), rarely(2) ? 1000 + any(5) : any(10000), rarely(3) ? any(3) : 2); break;
            case 1: call("access", any(5), any(2), rarely(2) ? 0 : any(3), any(5) - 1, any(5) - 1, any(5) - 1); break;
            case 2: call("access", any(2), any(2), 0, 0, 0, 0); break;
            case 3: call("speak", any(2), rarely(3) ? any(5) : any(2), 1000 + any(3)); break;
            case 4: call("forget", any(2)); break;
            case 5:
                for (int u = 0; u < 2; u++) {
                    call("user", u, true, 1000 + u, 2);
                    call("speak", u, u, 1000 + u);
                }
                break;
            default:
                hold();
                int view = rarely(2) ? 0 : any(4);
                int mask = rarely(2) ? 0 : rarely(2) ? any(256) : 1 << any(8);
                if (rarely(5)) {
                    call("unfamily", view, mask);
                } else {
                    call("family", view, mask, !rarely(4));
                }
                break;
        }
    }

    private void hands() {
        switch (any(7)) {
            case 0: call("shelve"); break;
            case 1: call("compare"); break;
            case 2: call("begins"); break;
            case 3: call("noLetters"); break;
            case 4: call("letters", any(256), any(128), rarely(2) ? -1 : 65, -1, rarely(3) ? any(256) : -1); break;
            case 5: call("longer", any(5), rarely(2) ? any(1000) : -1, -1, -1); break;
            default: hold(); break;
        }
    }

    /** Mostly a NAME that an OBJECT could have. */
    private void hold() {
        int a = 1 + any(4);
        int b = 1 + any(a == 4 ? 8 : a == 2 ? 5 : 3);
        int c = a == 1 || a == 4 ? 0 : 1 + any(a == 2 ? 4 : 3);
        int d = a == 3 ? 1 + any(4) : -1;
        switch (any(9)) {
            case 0: call("name", a, b, -1, -1); break;
            case 1: call("name", a, -1, -1, -1); break;
            case 2: call("name", any(6), any(9), any(6), any(6) - 1); break;
            case 3: call("name", any(1000), 127 + any(2), any(300), any(4) - 1); break;
            default: call("name", a, b, c, d); break;
        }
    }

    private void bind() {
        hold();
        call("hand");
        String hand = model.hand();
        switch (any(12)) {
            case 0: call("bind", 0, 0); break;
            case 1: call("bind", 1, STRANGE[any(STRANGE.length)]); break;
            case 2: call("bind", 3, any(65536)); break;
            case 3: call("bind", 4, any(70000)); break;
            case 4: call("bind", 5, 0); break;
            default:
                if (hand.startsWith("1.1") || hand.startsWith("2.2") || hand.startsWith("3.1")) {
                    call("bind", 2, 0);
                } else if (hand.startsWith("3.3")) {
                    call("bind", 1, new int[] {1, 2, 4, 6}[any(4)]);
                } else {
                    call("bind", 1, 1 + any(2));
                }
                break;
        }
    }

    private void request() {
        int kind = new int[] {0, 1, 3, 3, 4}[any(5)];
        call("draft", kind, any(3), rarely(6) ? any(10) : rarely(3) ? 1 : 0, rarely(4) ? -1 : any(4), rarely(4) ? any(109) - 9 : any(9));
        int binds = rarely(4) ? any(10) : 1 + any(3);
        if (kind == 3 && rarely(3)) {
            // A NOTE that comes with all, or one that goes.
            int i = 1 + any(3);
            int j = 1 + any(4);
            call("name", 3, 3, i, j);
            call("bind", 1, rarely(3) ? 6 : 4);
            call("name", 3, 1 + any(3), i, j);
            call("bind", rarely(2) ? 2 : 1, any(7));
        }
        for (int i = 0; i < binds; i++) {
            bind();
        }
        int manager = any(2);
        call("send", manager);
        if (!rarely(3)) {
            call("passAll", 1 + any(40));
        }
        call("answer", manager);
    }

    private void passes() {
        if (model.rows() > 0 && rarely(2)) {
            call("pass", any(model.rows()));
        } else {
            call("passAll", 1 + any(8));
        }
    }

    private void line() {
        int k = model.rows() > 0 ? any(model.rows()) : 0;
        int bytes = model.rows() > 0 ? model.ofRow(k, 2) : 1;
        switch (any(9)) {
            case 0: call("lose", k); break;
            case 1: call("twice", k); break;
            case 2: call("record", k, any(4)); break;
            case 3:
            case 4: call("replay", any(4)); break;
            case 5: call("spoil", k, any(bytes), any(256)); break;
            case 6: call("spoil", k, any(bytes), any(8)); break;
            case 7: call("inject", any(2)); break;
            default:
                call("rowText", k);
                call("ofRow", k, any(5));
                call("byteOf", k, any(bytes));
                break;
        }
    }

    private void asks() {
        switch (any(12)) {
            case 0: call("value", any(2)); break;
            case 1: call("walk", any(5), any(2)); break;
            case 2: call("ofAgent", any(10)); break;
            case 3: call("ofUser", any(5), any(11)); break;
            case 4: call("families", any(4)); break;
            case 5: call("has", any(4)); break;
            case 6: call("ofTarget", any(4), any(5)); break;
            case 7: call("ofManager", any(2), any(12)); break;
            case 8: call("told", 0, any(Math.max(1, model.ofManager(0, 8)))); break;
            case 9: call("house", any(5)); break;
            case 10: call("draftText"); break;
            default: bench(); break;
        }
    }

    private void bench() {
        if (model.rows() > 0 && rarely(2)) {
            call("fetch", any(model.rows()));
        }
        switch (any(7)) {
            case 0: call("cut", 1 + any(5)); break;
            case 1: call("lay", any(256), any(256), -1, any(8), -1); break;
            case 2: call("cipher", any(10000), any(1000), any(256)); break;
            case 3: call("sum", any(10000)); break;
            case 4: call("rows"); break;
            default: break;
        }
        call("fault");
        call("read");
    }

    private void notices() {
        switch (any(4)) {
            case 0: call("target", any(4), !rarely(5), any(2), rarely(4) ? any(5) : any(2), any(3), !rarely(3)); break;
            case 1: call("target", any(4), true, 0, 0, any(3), true); break;
            default: call("port", 1 + any(4), rarely(2)); break;
        }
    }

    private int[] value() {
        switch (any(8)) {
            case 0: return Rows.octets("label");
            case 1: return Rows.number(65, any(65536));
            case 2: return Rows.number(67, any(65536));
            case 3: return Rows.name("1.2.300");
            case 4: return Rows.empty(rarely(2) ? 5 : 128 + any(3));
            default: return Rows.integer(rarely(4) ? STRANGE[any(STRANGE.length)] : 1 + any(2));
        }
    }

    /** A row of this side's making, from a MANAGER to the agent, mostly a right one. */
    private void forge() {
        int[] binds = {};
        for (int i = any(3); i > 0; i--) {
            int column = 1 + any(3);
            binds = Rows.join(binds, Rows.list(rarely(2) ? Rows.name(column, any(6)) : Rows.name(1 + any(2), 2 + any(2), any(5)), value()));
        }
        int kind = any(8);
        int request = rarely(2) ? model.ofAgent(7) - any(3) : any(20);
        int[] scope = Rows.scope(rarely(5) ? any(5) - 2 : any(2),
                Rows.pdu(kind, request, rarely(3) ? any(9) - 2 : 0, any(12) - 1, binds));
        int user = any(rarely(6) ? 5 : 2);
        int level = any(3);
        int time = model.ofAgent(2) + (rarely(4) ? any(41) - 20 : 0);
        int boots = model.ofAgent(1) - (rarely(8) ? 1 : 0);
        int[] row = level == 0 ? Rows.plain(any(50), user, scope)
                : Rows.sealed(any(rarely(2) ? 6 : 5000), level, rarely(9) ? 6 : 7, boots, time, user, model.ofUser(user, 1), any(256), scope);
        if (rarely(6)) {
            row[any(row.length)] = any(256);
        }
        if (calls + row.length / 5 + 3 > CALLS) {
            return;
        }
        call("cut", 255);
        for (int at = 0; at < row.length; at += 5) {
            call("lay", row[at], at(row, at + 1), at(row, at + 2), at(row, at + 3), at(row, at + 4));
        }
        call("inject", any(2));
        if (!rarely(3)) {
            call("passAll", 1 + any(9));
        }
    }

    private static int at(int[] row, int place) {
        return place < row.length ? row[place] : -1;
    }
}
