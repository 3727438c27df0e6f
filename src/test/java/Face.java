import java.lang.reflect.InvocationTargetException;
import java.lang.reflect.Method;
import java.lang.reflect.Modifier;
import java.util.HashMap;
import java.util.Map;

/** Calls of the face by their names, objects that tests begin from, and what becomes of them. */
final class Face {
    // What one REFUSED more makes of the digest: behind house(3) it goes on by house(4) and isSound().
    static final long REFUSED_ONCE = 31 * 31;

    private static final Map<String, Method> METHODS = new HashMap<>();

    static {
        for (Method method : Agenttree.class.getDeclaredMethods()) {
            if (Modifier.isPublic(method.getModifiers())) {
                METHODS.put(method.getName(), method);
            }
        }
    }

    private Face() {
    }

    /** The answer of a call, or the class of what it throws. */
    static Object call(Agenttree x, String name, Object... arguments) {
        try {
            return METHODS.get(name).invoke(x, arguments);
        } catch (InvocationTargetException e) {
            return e.getCause().getClass();
        } catch (IllegalAccessException e) {
            throw new IllegalStateException(e);
        }
    }

    /** One in which there is some of everything: rows under way, a record, an OPEN INFORM, NOTES, names in HAND. */
    static Agenttree busy() {
        Agenttree x = new Agenttree();
        Talk.seeAll(x);
        x.access(0, 1, 0, 0, 0, 0);
        x.note(0, 1, 2, true);
        x.note(1, 3, 4, true);
        x.traffic(2, 65535, 40000);
        x.send(0);
        x.send(1);
        x.passAll(4);
        x.target(0, true, 0, 0, 2, true);
        x.target(2, true, 1, 1, 0, false);
        x.tick(3);
        x.port(3, false);
        x.pass(1);
        x.draft(Talk.SET, 2, 0, 0, 0);
        Talk.bind(x, "1.2.0=5", "1.1.0='abc'");
        x.send(0);
        x.record(1, 2);
        x.pass(1);
        x.twice(1);
        x.send(1);
        x.spoil(3, 0, 49);
        x.draft(Talk.BULK, 1, 0, 1, 3);
        Talk.bind(x, "1", "2.3");
        x.send(1);
        Talk.hold(x, "2.3");
        x.shelve();
        Talk.hold(x, "2.3.1");
        x.lay(48, 3, 2, 1, 4);
        x.knock();
        x.tick(1);
        return x;
    }

    /** One with 16 rows under way. */
    static Agenttree full() {
        Agenttree x = busy();
        while (x.rows() < 16) {
            x.send(0);
        }
        return x;
    }

    /**
     * What is there, and what becomes of it: what was hidden comes to light. It changes the object. How often
     * REFUSED was told ahead of it does not count.
     */
    static String story(Agenttree x, int refusals) {
        StringBuilder s = new StringBuilder();
        String[] calls = {"rows", "compare", "begins", "shelve", "noLetters"};
        tell(s, x, refusals);
        for (String name : calls) {
            s.append(call(x, name)).append(' ');
        }
        x.passAll(1);
        for (int slot = 0; slot < 4; slot++) {
            s.append(x.replay(slot)).append(' ');
        }
        tell(s, x, refusals);
        x.passAll(40);
        tell(s, x, refusals);
        for (int i = 0; i < 5; i++) {
            x.tick(i == 4 ? 30 : 2);
            tell(s, x, refusals);
            x.passAll(40);
            s.append(x.send(0)).append(' ').append(x.send(1)).append(' ');
            x.passAll(40);
            tell(s, x, refusals);
        }
        return s.toString();
    }

    private static void tell(StringBuilder s, Agenttree x, int refusals) {
        s.append(x.digest() - refusals * REFUSED_ONCE).append(' ');
    }
}
