import java.util.ArrayList;
import java.util.List;
import java.util.Map;
import java.util.Set;
import java.util.TreeMap;
import java.util.TreeSet;

/** All that an object tells, by the calls that tell it, so that a test can ask what a call changed, and that it changed nothing else. */
final class Shown {
    private final Map<String, String> all = new TreeMap<>();
    private final Agenttree x;

    private Shown(Agenttree x) {
        this.x = x;
    }

    /** What the second one tells otherwise than the first, "call=answer" each, sorted; both objects are used up by it. */
    static List<String> changes(Agenttree before, Agenttree after) {
        Map<String, String> one = of(before);
        Map<String, String> two = of(after);
        Set<String> calls = new TreeSet<>(one.keySet());
        calls.addAll(two.keySet());
        List<String> changes = new ArrayList<>();
        for (String call : calls) {
            String was = one.getOrDefault(call, "none");
            String is = two.getOrDefault(call, "none");
            if (!was.equals(is)) {
                changes.add(call + "=" + (call.startsWith("walk") ? names(was, is) : is));
            }
        }
        return changes;
    }

    /** The NAMES that a walk() has more, with "+", and those that it has no more, with "-". */
    private static String names(String was, String is) {
        List<String> before = List.of(was.split(" "));
        List<String> then = List.of(is.split(" "));
        StringBuilder names = new StringBuilder();
        for (String name : then) {
            names.append(before.contains(name) || name.isEmpty() ? "" : "+" + name + " ");
        }
        for (String name : before) {
            names.append(then.contains(name) || name.isEmpty() ? "" : "-" + name + " ");
        }
        return names.toString().trim();
    }

    private static Map<String, String> of(Agenttree x) {
        Shown shown = new Shown(x);
        shown.agentAndViews();
        shown.managers();
        shown.rows();
        shown.hidden();
        shown.values();
        return shown.all;
    }

    private Object show(String name, Object... arguments) {
        Object answer = Face.call(x, name, arguments);
        StringBuilder call = new StringBuilder(name);
        for (int i = 0; i < arguments.length; i++) {
            call.append(i == 0 ? "(" : ", ").append(arguments[i]);
        }
        all.put(call.append(arguments.length == 0 ? "()" : ")").toString(), String.valueOf(answer));
        return answer;
    }

    private void agentAndViews() {
        for (int what = 0; what <= 9; what++) {
            show("ofAgent", what);
        }
        for (int user = 0; user <= 4; user++) {
            for (int what = 0; what <= 10; what++) {
                show("ofUser", user, what);
            }
            show("walk", user, 0);
            show("walk", user, 1);
        }
        for (int i = 0; i <= 3; i++) {
            show("families", i);
            for (int what = 0; what <= 4; what++) {
                show("ofTarget", i, what);
            }
        }
        for (int what = 0; what <= 4; what++) {
            show("house", what);
        }
        show("isSound");
        show("fault");
        show("read");
        show("hand");
    }

    private void managers() {
        for (int manager = 0; manager <= 1; manager++) {
            for (int what = 0; what <= 11; what++) {
                show("ofManager", manager, what);
            }
            show("answer", manager);
            int told = x.ofManager(manager, 8);
            for (int k = 0; k < told; k++) {
                show("told", manager, k);
            }
        }
        show("draftText");
    }

    private void rows() {
        int rows = (Integer) show("rows");
        for (int k = 0; k < rows; k++) {
            StringBuilder row = new StringBuilder();
            for (int what = 0; what <= 4; what++) {
                row.append(x.ofRow(k, what)).append(' ');
            }
            all.put("row " + k, row + "/ " + x.rowText(k));
        }
    }

    /** What comes to light as it is used alone: the SHELF, records, the LEVEL of the DRAFT, the OCTETS in HAND. */
    private void hidden() {
        while (x.rows() > 0) {
            x.lose(0);
        }
        x.send(0);
        all.put("the DRAFT under way", x.rowText(0));
        for (int slot = 0; slot <= 3; slot++) {
            int behind = x.replay(slot);
            all.put("the record " + slot, behind < 0 ? "none" : x.ofRow(behind - 1, 0) + " to " + x.ofRow(behind - 1, 1) + ", "
                    + x.rowText(behind - 1));
        }
        x.name(0, -1, -1, -1);
        x.draft(0, 0, 0, 0, 0);
        x.bind(2, 0);
        Face.call(x, "bind", 5, 0);
        all.put("the OCTETS and the SHELF", x.draftText());
    }

    private void values() {
        for (int i = 1; i <= 4; i++) {
            int columns = new int[] {3, 5, 3, 8}[i - 1];
            for (int j = 1; j <= columns; j++) {
                int rows = new int[] {1, 4, 12, 1}[i - 1];
                for (int k = 0; k < rows; k++) {
                    value(i + "." + j + "." + (i == 3 ? k / 4 + 1 + "." + (k % 4 + 1) : i == 2 ? k + 1 : 0), i);
                }
            }
        }
    }

    private void value(String name, int group) {
        Talk.hold(x, name);
        all.put(name, x.value(0));
        if (group == 1 || group == 3) {
            all.put(name + " of 1", x.value(1));
        }
    }
}
