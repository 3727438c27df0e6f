import java.util.ArrayList;
import java.util.Arrays;
import java.util.Comparator;
import java.util.HashMap;
import java.util.HashSet;
import java.util.LinkedHashMap;
import java.util.List;
import java.util.Map;
import java.util.Set;
import java.util.TreeMap;

/**
 * The document once more, written apart from the class that is tested, with all that the Java library has:
 * its answers are compared with those of the class (ModelTests). Its face is the same, but it throws no more
 * than one kind of exception for each place and lets what the machine throws pass.
 */
public final class Model {
    private static final Comparator<List<Integer>> ORDER = (a, b) -> {
        for (int i = 0; i < Math.min(a.size(), b.size()); i++) {
            if (!a.get(i).equals(b.get(i))) {
                return a.get(i) - b.get(i);
            }
        }
        return a.size() - b.size();
    };
    private static final String[] KINDS = {"get", "next", "response", "set", "bulk", "trap", "inform", "report"};

    record Value(int tag, int number, List<Integer> parts) {
        static Value number(int tag, int number) {
            return new Value(tag, number, List.of());
        }

        static Value bare(int tag) {
            return new Value(tag, 0, List.of());
        }

        String text() {
            switch (tag) {
                case 2: return "" + number;
                case 65: return "c" + number;
                case 67: return "t" + number;
                case 5: return "null";
                case 128: return "no object";
                case 129: return "no instance";
                case 130: return "end";
                case 6: return name(parts);
                default:
                    StringBuilder s = new StringBuilder("'");
                    for (int b : parts) {
                        s.append(b >= 32 && b <= 126 && b != 39 ? (char) b : '?');
                    }
                    return s.append("'").toString();
            }
        }

        int[] bytes() {
            int[] array = parts.stream().mapToInt(i -> i).toArray();
            return tag == 6 ? Rows.name(array) : tag == 4 ? Rows.part(4, array)
                    : tag == 2 || tag == 65 || tag == 67 ? Rows.number(tag, number) : Rows.empty(tag);
        }
    }

    record Bind(List<Integer> name, Value value) {
    }

    static final class Pdu {
        int context;
        int kind;
        int request;
        int status;
        int index;
        List<Bind> binds = new ArrayList<>();

        Pdu(int context, int kind, int request) {
            this.context = context;
            this.kind = kind;
            this.request = request;
        }

        String text() {
            StringBuilder s = new StringBuilder(context + " " + KINDS[kind] + " " + request + " " + status + " " + index);
            for (Bind b : binds) {
                s.append(", ").append(name(b.name)).append("=").append(b.value.text());
            }
            return s.toString();
        }

        int[] bytes() {
            int[] all = {};
            for (Bind b : binds) {
                all = Rows.join(all, wide(48, Rows.name(b.name.stream().mapToInt(i -> i).toArray()), b.value.bytes()));
            }
            int[] inner = wide(160 + kind, Rows.integer(request), Rows.integer(status), Rows.integer(index), wide(48, all));
            return wide(48, Rows.integer(context), inner);
        }
    }

    /** Like Rows.part, for what is too long for a row, too. */
    private static int[] wide(int tag, int[]... parts) {
        int[] content = Rows.join(parts);
        return content.length <= 255 ? Rows.part(tag, content) : Rows.join(Rows.of(tag, 129, 255), content);
    }

    static final class Msg {
        int id;
        int level;
        int engine;
        int boots;
        int time;
        int user;
        int sum = -1;
        int sumPlace = -1;
        int salt;
        Pdu pdu;
        int[] secret;

        int[] seal(int key) {
            int[] front = Rows.join(Rows.integer(3), Rows.integer(id), Rows.integer(level), Rows.integer(engine),
                    Rows.integer(boots), Rows.integer(time), Rows.integer(user));
            int[] inner = pdu.bytes();
            if (level == 2) {
                inner = wide(4, Rows.ciphered(inner, key, boots, salt));
            }
            int[] row = wide(48, front, level == 0 ? Rows.of(4, 0) : Rows.of(4, 2, 0, 0), Rows.integer(salt), inner);
            if (level > 0 && row.length <= 255) {
                int place = (row[1] == 129 ? 3 : 2) + front.length + 2;
                int h = Rows.sum(row, key, place);
                row[place] = h / 256;
                row[place + 1] = h % 256;
            }
            return row;
        }
    }

    static final class Fault extends Exception {
        final int place;

        Fault(int place) {
            super("fault", null, false, false);
            this.place = place;
        }
    }

    /** READS, part by part, by throwing the first FAULT. */
    static final class Reader {
        final int[] b;
        int at;

        Reader(int[] b) {
            this.b = b;
        }

        /** Begins a part that stands in what ends at a place; returns where its CONTENT ends. */
        int open(int end, int... tags) throws Fault {
            int begin = at;
            if (at >= end || Arrays.stream(tags).noneMatch(t -> t == b[begin])) {
                throw new Fault(begin);
            }
            if (begin + 1 >= end) {
                throw new Fault(begin);
            }
            int n = b[begin + 1];
            int content = begin + 2;
            if (n > 127) {
                if (n != 129 || content >= end || b[content] < 128) {
                    throw new Fault(begin);
                }
                n = b[content];
                content++;
            }
            if (content + n > end) {
                throw new Fault(begin);
            }
            at = content;
            return content + n;
        }

        long number(int end, int tag, long least, long most) throws Fault {
            int begin = at;
            int close = open(end, tag);
            if (close == at) {
                throw new Fault(begin);
            }
            byte[] bytes = new byte[close - at];
            for (int i = 0; i < bytes.length; i++) {
                bytes[i] = (byte) b[at + i];
            }
            java.math.BigInteger n = new java.math.BigInteger(bytes);
            if (bytes.length > 4 || n.toByteArray().length != bytes.length || n.longValue() < least || n.longValue() > most) {
                throw new Fault(begin);
            }
            at = close;
            return n.longValue();
        }

        int integer(int end) throws Fault {
            return (int) number(end, 2, Integer.MIN_VALUE, Integer.MAX_VALUE);
        }

        List<Integer> name(int end) throws Fault {
            int begin = at;
            int close = open(end, 6);
            List<Integer> numbers = new ArrayList<>();
            while (at < close) {
                int n = b[at++];
                if (n > 127) {
                    if (at == close || b[at] > 127 || n == 128) {
                        throw new Fault(begin);
                    }
                    n = (n - 128) * 128 + b[at++];
                }
                numbers.add(n);
            }
            if (numbers.isEmpty() || numbers.size() > 8 || numbers.stream().anyMatch(n -> n > 999)) {
                throw new Fault(begin);
            }
            return numbers;
        }

        Value value(int end) throws Fault {
            int begin = at;
            int tag = at < end ? b[at] : -1;
            switch (tag) {
                case 2: return Value.number(2, integer(end));
                case 65: return Value.number(65, (int) number(end, 65, 0, 65535));
                case 67: return Value.number(67, (int) number(end, 67, 0, Integer.MAX_VALUE));
                case 6: return new Value(6, 0, name(end));
                default:
                    int close = open(end, 4, 5, 128, 129, 130);
                    List<Integer> bytes = new ArrayList<>();
                    for (int i = at; i < close; i++) {
                        bytes.add(b[i]);
                    }
                    if (bytes.size() > (tag == 4 ? 12 : 0)) {
                        throw new Fault(begin);
                    }
                    at = close;
                    return new Value(tag, 0, bytes);
            }
        }

        void close(int end) throws Fault {
            if (at < end) {
                throw new Fault(at);
            }
        }

        Pdu scope(int end) throws Fault {
            int scopeEnd = open(end, 48);
            int context = integer(scopeEnd);
            int kind = at < scopeEnd ? b[at] - 160 : -1;
            int pduEnd = open(scopeEnd, 160, 161, 162, 163, 164, 165, 166, 167);
            Pdu pdu = new Pdu(context, kind, integer(pduEnd));
            pdu.status = integer(pduEnd);
            pdu.index = integer(pduEnd);
            int listEnd = open(pduEnd, 48);
            while (at < listEnd) {
                if (pdu.binds.size() == 8) {
                    throw new Fault(at);
                }
                int bindEnd = open(listEnd, 48);
                List<Integer> name = name(bindEnd);
                pdu.binds.add(new Bind(name, value(bindEnd)));
                close(bindEnd);
            }
            close(pduEnd);
            close(scopeEnd);
            return pdu;
        }

        Msg message() throws Fault {
            Msg m = new Msg();
            int end = open(b.length, 48);
            number(end, 2, 3, 3);
            m.id = integer(end);
            m.level = (int) number(end, 2, 0, 2);
            m.engine = integer(end);
            m.boots = integer(end);
            m.time = integer(end);
            m.user = integer(end);
            int begin = at;
            int sumEnd = open(end, 4);
            if (sumEnd - at != (m.level == 0 ? 0 : 2)) {
                throw new Fault(begin);
            }
            if (m.level > 0) {
                m.sumPlace = at;
                m.sum = b[at] * 256 + b[at + 1];
            }
            at = sumEnd;
            m.salt = (int) number(end, 2, 0, m.level == 2 ? 255 : 0);
            if (m.level == 2) {
                int close = open(end, 4);
                m.secret = Arrays.copyOfRange(b, at, close);
                at = close;
            } else {
                m.pdu = scope(end);
            }
            close(end);
            close(b.length);
            return m;
        }
    }

    record Wire(int from, int to, int at, int[] bytes) {
    }

    record Family(List<Integer> name, int mask, boolean isIn) {
        boolean has(List<Integer> n) {
            for (int i = 0; i < name.size(); i++) {
                if (i >= n.size() || (mask & 1 << i) == 0 && !name.get(i).equals(n.get(i))) {
                    return false;
                }
            }
            return true;
        }
    }

    private static final Comparator<Family> BY_NAME = Comparator.comparing(Family::name, ORDER).thenComparing(Family::mask);
    private static final Comparator<Family> BY_WEIGHT =
            Comparator.<Family>comparingInt(f -> f.name.size()).thenComparing(BY_NAME);

    static final class Who {
        boolean known;
        int key;
        int highest = 2;
        int[][] access = {{0, 0, 0, 0}, {0, -1, -1, -1}};
    }

    static final class Goal {
        boolean on;
        int manager;
        int user;
        int level;
        boolean inform;
    }

    record Open(int number, Goal goal, int since, Pdu pdu) {
    }

    static final class Boss {
        int user;
        int key;
        int engine;
        int boots;
        int time;
        int learned;
        int sent;
        int answers;
        int dropped;
        int ciphers;
        int last = -1;
        String answer = "";
        Map<Integer, Integer> open = new HashMap<>();
        List<String> told = new ArrayList<>();
        Set<String> keys = new HashSet<>();
    }

    private int now;
    private int boots = 1;
    private int time;
    private int most = 255;
    private int notices = 1000;
    private int agentCiphers;
    private final List<TreeMap<List<Integer>, Value>> trees = new ArrayList<>();
    private final List<List<Family>> views = new ArrayList<>();
    private final Who[] users = new Who[5];
    private final Goal[] goals = new Goal[4];
    private final List<Open> open = new ArrayList<>();
    private final Map<String, Integer> taken = new LinkedHashMap<>();
    private final Boss[] bosses = {new Boss(), new Boss()};
    private final List<Wire> line = new ArrayList<>();
    private final Wire[] records = new Wire[4];
    private List<Integer> hand;
    private List<Integer> shelf;
    private final List<Integer> letters = new ArrayList<>();
    private int[] bench = {};
    private Pdu draft = new Pdu(0, 0, 0);
    private int draftLevel;
    private final int[] house = new int[5];

    public Model() {
        for (int c = 0; c < 2; c++) {
            TreeMap<List<Integer>, Value> t = new TreeMap<>(ORDER);
            t.put(List.of(1, 1, 0), Value.bare(4));
            t.put(List.of(1, 2, 0), Value.number(2, 0));
            trees.add(t);
        }
        TreeMap<List<Integer>, Value> t = trees.get(0);
        t.put(List.of(1, 3, 0), Value.number(67, 0));
        for (int p = 1; p <= 4; p++) {
            t.put(List.of(2, 1, p), Value.number(2, p));
            t.put(List.of(2, 2, p), Value.bare(4));
            t.put(List.of(2, 3, p), Value.number(2, 1));
            t.put(List.of(2, 4, p), Value.number(65, 0));
            t.put(List.of(2, 5, p), Value.number(65, 0));
        }
        for (int i = 1; i <= 8; i++) {
            t.put(List.of(4, i, 0), Value.number(65, 0));
        }
        for (int i = 0; i < 5; i++) {
            users[i] = new Who();
            users[i].known = i < 2;
            users[i].key = 1000 + i;
        }
        for (int i = 0; i < 4; i++) {
            views.add(new ArrayList<>());
            goals[i] = new Goal();
        }
        views.get(0).add(new Family(List.of(1), 0, true));
        bosses[1].user = 1;
        bosses[0].key = 1000;
        bosses[1].key = 1001;
    }

    static String name(List<Integer> n) {
        StringBuilder s = new StringBuilder();
        for (int i : n) {
            s.append(s.length() == 0 ? "" : ".").append(i);
        }
        return s.toString();
    }

    private static void place(boolean ok) {
        if (!ok) {
            throw new IndexOutOfBoundsException();
        }
    }

    private static void argument(boolean ok) {
        if (!ok) {
            throw new IllegalArgumentException();
        }
    }

    private static void state(boolean ok) {
        if (!ok) {
            throw new IllegalStateException();
        }
    }

    private static boolean in(int x, int a, int b) {
        return a <= x && x <= b;
    }

    private int refuse() {
        house[3]++;
        return -9;
    }

    // ---- what goes out

    private void put(int from, int to, int[] bytes) {
        house[0]++;
        if (line.size() >= 16 || bytes.length > 255) {
            house[1]++;
        } else {
            line.add(new Wire(from, to, now, bytes));
        }
    }

    private void agentSends(Msg m, int to, int key) {
        m.engine = 7;
        m.boots = boots;
        m.time = time;
        m.salt = m.level == 2 ? agentCiphers % 256 : 0;
        put(2, to, m.seal(key));
        agentCiphers += m.level == 2 ? 1 : 0;
    }

    private int add(List<Integer> counter, int many) {
        int n = (trees.get(0).get(counter).number + many) % 65536;
        trees.get(0).put(counter, Value.number(65, n));
        return n;
    }

    private void notices(int port) {
        for (Goal g : goals) {
            Who w = users[g.user];
            List<Bind> binds = new ArrayList<>();
            binds.add(bound(List.of(1, 3, 0)));
            if (port > 0) {
                binds.add(bound(List.of(2, 1, port)));
                binds.add(bound(List.of(2, 3, port)));
            }
            int v = w.access[0][3];
            if (!g.on || !w.known || g.level > w.highest || g.level < w.access[0][0] || v == -1
                    || !binds.stream().allMatch(b -> seen(v, b.name))) {
                continue;
            }
            notices++;
            Pdu pdu = new Pdu(0, g.inform ? 6 : 5, notices);
            pdu.binds = binds;
            Goal copy = new Goal();
            copy.manager = g.manager;
            copy.user = g.user;
            copy.level = g.level;
            Open o = new Open(notices, copy, now, pdu);
            if (g.inform) {
                open.add(o);
            }
            sendNotice(o);
        }
    }

    private Bind bound(List<Integer> name) {
        return new Bind(name, trees.get(0).get(name));
    }

    private void sendNotice(Open o) {
        Msg m = new Msg();
        m.id = o.number;
        m.level = o.goal.level;
        m.user = o.goal.user;
        m.pdu = o.pdu;
        agentSends(m, o.goal.manager, users[o.goal.user].key);
    }

    private boolean seen(int view, List<Integer> name) {
        return views.get(view).stream().filter(f -> f.has(name)).max(BY_WEIGHT).map(Family::isIn).orElse(false);
    }

    // ---- what comes

    private void come(int k) {
        Wire w = line.remove(k);
        house[2]++;
        Msg m = null;
        try {
            m = new Reader(w.bytes).message();
        } catch (Fault e) {
            m = null;
        }
        if (w.to == 2) {
            comeToAgent(w, m);
        } else {
            comeToBoss(w, m, bosses[w.to], w.to);
        }
    }

    private void report(Wire w, Msg m, int which, int level) {
        List<Integer> counter = List.of(4, which, 0);
        add(counter, 1);
        Msg r = new Msg();
        r.id = m.id;
        r.level = level;
        r.user = m.user;
        r.pdu = new Pdu(0, 7, 0);
        r.pdu.binds.add(bound(counter));
        agentSends(r, w.from, level == 0 ? 0 : users[m.user].key);
    }

    private void comeToAgent(Wire w, Msg m) {
        add(List.of(4, 1, 0), 1);
        if (m == null) {
            add(List.of(4, 2, 0), 1);
            return;
        }
        if (m.engine != 7) {
            report(w, m, 3, 0);
            return;
        }
        if (m.user < 0 || m.user > 4 || !users[m.user].known) {
            report(w, m, 4, 0);
            return;
        }
        Who who = users[m.user];
        if (m.level > who.highest) {
            report(w, m, 5, 0);
            return;
        }
        if (m.level > 0) {
            if (Rows.sum(w.bytes, who.key, m.sumPlace) != m.sum) {
                report(w, m, 6, 0);
                return;
            }
            if (m.boots != boots || Math.abs((long) m.time - time) > 15) {
                report(w, m, 7, 1);
                return;
            }
            String mark = m.user + " " + m.id;
            if (taken.containsKey(mark) && now - taken.get(mark) <= 30) {
                add(List.of(4, 7, 0), 1);
                return;
            }
            taken.put(mark, now);
        }
        if (m.level == 2) {
            m.pdu = decipher(m, who.key);
            if (m.pdu == null) {
                report(w, m, 8, 0);
                return;
            }
        }
        if (m.pdu.kind == 2) {
            open.removeIf(o -> o.number == m.pdu.request && o.goal.user == m.user && m.level >= o.goal.level);
        } else if (m.pdu.kind < 5) {
            answer(w, m, who);
        }
    }

    private static Pdu decipher(Msg m, int key) {
        int[] plain = Rows.ciphered(m.secret, key, m.boots, m.salt);
        try {
            Reader reader = new Reader(plain);
            Pdu pdu = reader.scope(plain.length);
            reader.close(plain.length);
            return pdu;
        } catch (Fault e) {
            return null;
        }
    }

    private void answer(Wire w, Msg m, Who who) {
        Pdu q = m.pdu;
        Msg r = new Msg();
        r.id = m.id;
        r.level = m.level;
        r.user = m.user;
        r.pdu = new Pdu(q.context, 2, q.request);
        Pdu a = r.pdu;
        boolean has = in(q.context, 0, 1) && m.level >= who.access[q.context][0] && who.access[q.context][q.kind == 3 ? 2 : 1] >= 0;
        Map<List<Integer>, Value> after = null;
        if (!has) {
            a.status = 16;
        } else {
            int v = who.access[q.context][q.kind == 3 ? 2 : 1];
            switch (q.kind) {
                case 0: q.binds.forEach(b -> a.binds.add(got(q.context, v, b.name))); break;
                case 1: q.binds.forEach(b -> a.binds.add(next(q.context, v, b.name))); break;
                case 4: bulk(q, a, v); break;
                default:
                    a.binds = q.binds;
                    after = set(q, a, v);
                    break;
            }
        }
        while (length(r, who.key) > most) {
            if (q.kind == 4) {
                a.binds.remove(a.binds.size() - 1);
            } else {
                a.status = 1;
                a.index = 0;
                a.binds = List.of();
                after = null;
            }
        }
        List<Integer> ports = new ArrayList<>();
        if (after != null) {
            for (int p = 1; p <= 4; p++) {
                if (q.context == 0 && !after.get(List.of(2, 3, p)).equals(trees.get(0).get(List.of(2, 3, p)))) {
                    ports.add(p);
                }
            }
            trees.get(q.context).clear();
            trees.get(q.context).putAll(after);
        }
        agentSends(r, w.from, who.key);
        ports.forEach(this::notices);
    }

    private int length(Msg r, int key) {
        r.engine = 7;
        r.boots = boots;
        r.time = time;
        r.salt = r.level == 2 ? agentCiphers % 256 : 0;
        return r.seal(key).length;
    }

    private static String columns(int context) {
        return context == 0 ? " 1.1 1.2 1.3 2.1 2.2 2.3 2.4 2.5 3.1 3.2 3.3 4.1 4.2 4.3 4.4 4.5 4.6 4.7 4.8 " : " 1.1 1.2 3.1 3.2 3.3 ";
    }

    private static String settable(int context) {
        return context == 0 ? " 1.1 1.2 2.2 2.3 3.1 3.2 3.3 " : " 1.1 1.2 3.1 3.2 3.3 ";
    }

    private static String stem(List<Integer> n) {
        return n.size() < 2 ? "none" : n.get(0) + "." + n.get(1);
    }

    private static boolean isOne(int context, List<Integer> n) {
        if (!columns(context).contains(" " + stem(n) + " ")) {
            return false;
        }
        List<Integer> tail = n.subList(2, n.size());
        switch (n.get(0)) {
            case 2: return tail.size() == 1 && in(tail.get(0), 1, 4);
            case 3: return tail.size() == 2 && in(tail.get(0), 1, 3) && in(tail.get(1), 1, 4);
            default: return tail.equals(List.of(0));
        }
    }

    private Bind got(int context, int view, List<Integer> n) {
        if (!seen(view, n) || !columns(context).contains(" " + stem(n) + " ")) {
            return new Bind(n, Value.bare(128));
        }
        return new Bind(n, trees.get(context).getOrDefault(n, Value.bare(129)));
    }

    private Bind next(int context, int view, List<Integer> n) {
        for (Map.Entry<List<Integer>, Value> e : trees.get(context).tailMap(n, false).entrySet()) {
            if (seen(view, e.getKey())) {
                return new Bind(e.getKey(), e.getValue());
            }
        }
        return new Bind(n, Value.bare(130));
    }

    private void bulk(Pdu q, Pdu a, int view) {
        int few = Math.max(0, Math.min(q.status, q.binds.size()));
        for (Bind b : q.binds.subList(0, few)) {
            a.binds.add(next(q.context, view, b.name));
        }
        List<List<Integer>> froms = new ArrayList<>();
        q.binds.subList(few, q.binds.size()).forEach(b -> froms.add(b.name));
        for (int round = 0; round < Math.min(8, q.index); round++) {
            boolean all = true;
            for (int i = 0; i < froms.size(); i++) {
                if (a.binds.size() == 8) {
                    return;
                }
                Bind b = next(q.context, view, froms.get(i));
                a.binds.add(b);
                froms.set(i, b.name);
                all &= b.value.tag == 130;
            }
            if (all) {
                return;
            }
        }
    }

    private int wrong(Pdu q, int i, int view) {
        Bind b = q.binds.get(i);
        String stem = stem(b.name);
        if (!seen(view, b.name)) {
            return 6;
        }
        if (!settable(q.context).contains(" " + stem + " ")) {
            return 17;
        }
        boolean isText = " 1.1 2.2 3.1 ".contains(" " + stem + " ");
        if (b.value.tag != (isText ? 4 : 2)) {
            return 7;
        }
        if (isText && b.value.parts.size() > 8) {
            return 8;
        }
        int n = b.value.number;
        if (stem.equals("1.2") && !in(n, 0, 9) || stem.equals("2.3") && !in(n, 1, 2)
                || stem.equals("3.3") && n != 1 && n != 2 && n != 4 && n != 6) {
            return 10;
        }
        if (!isOne(q.context, b.name)) {
            return 11;
        }
        return q.binds.subList(0, i).stream().anyMatch(o -> o.name.equals(b.name)) ? 12 : 0;
    }

    /** The OBJECTS as they are behind a SET; null if something is wrong. */
    private Map<List<Integer>, Value> set(Pdu q, Pdu a, int view) {
        for (int i = 0; i < q.binds.size(); i++) {
            a.status = wrong(q, i, view);
            if (a.status != 0) {
                a.index = i + 1;
                return null;
            }
        }
        TreeMap<List<Integer>, Value> after = new TreeMap<>(ORDER);
        after.putAll(trees.get(q.context));
        Map<List<Integer>, Integer> notes = new LinkedHashMap<>();
        for (int i = 0; i < q.binds.size(); i++) {
            List<Integer> n = q.binds.get(i).name;
            if (n.get(0) == 3) {
                notes.putIfAbsent(n.subList(2, 4), i + 1);
            }
        }
        Set<List<Integer>> going = new HashSet<>();
        for (List<Integer> note : notes.keySet()) {
            List<Integer> statusName = List.of(3, 3, note.get(0), note.get(1));
            int becomes = q.binds.stream().filter(b -> b.name.equals(statusName)).mapToInt(b -> b.value.number).findFirst().orElse(0);
            if (after.containsKey(statusName) == (becomes == 4)) {
                a.status = 12;
                a.index = notes.get(note);
                return null;
            }
            if (becomes == 6) {
                going.add(note);
            }
        }
        for (List<Integer> note : notes.keySet()) {
            place(after, note.get(0), note.get(1), true);
        }
        for (Bind b : q.binds) {
            boolean isMove = stem(b.name).equals("3.3") && b.value.number > 2;
            if (!isMove) {
                after.put(b.name, b.value);
            }
        }
        going.forEach(note -> place(after, note.get(0), note.get(1), false));
        return after;
    }

    private static boolean place(Map<List<Integer>, Value> tree, int i, int j, boolean isThere) {
        if (tree.containsKey(List.of(3, 3, i, j)) == isThere) {
            return false;
        }
        if (isThere) {
            tree.put(List.of(3, 1, i, j), Value.bare(4));
            tree.put(List.of(3, 2, i, j), Value.number(2, 0));
            tree.put(List.of(3, 3, i, j), Value.number(2, 1));
        } else {
            for (int c = 1; c <= 3; c++) {
                tree.remove(List.of(3, c, i, j));
            }
        }
        return true;
    }

    private void comeToBoss(Wire w, Msg m, Boss boss, int which) {
        if (m == null || m.user != boss.user || m.level > 0 && Rows.sum(w.bytes, boss.key, m.sumPlace) != m.sum) {
            boss.dropped++;
            return;
        }
        int told = boss.time + (now - boss.learned);
        if (m.engine == 7 && (m.level > 0 && (m.boots > boss.boots || m.boots == boss.boots && m.time > told)
                || m.level == 0 && boss.engine == 0)) {
            boss.engine = 7;
            boss.boots = m.boots;
            boss.time = m.time;
            boss.learned = now;
        }
        if (m.level == 2) {
            m.pdu = decipher(m, boss.key);
            if (m.pdu == null) {
                boss.dropped++;
                return;
            }
        }
        Integer level = boss.open.get(m.id);
        boolean isFresh = !boss.keys.contains(m.boots + " " + m.pdu.request);
        if (level != null && (m.pdu.kind == 7 || m.pdu.kind == 2 && m.pdu.request == m.id && m.level >= level)) {
            boss.open.remove(m.id);
            boss.answers++;
            boss.answer = m.pdu.text();
            boss.last = m.id;
        } else if (m.pdu.kind == 6 || m.pdu.kind == 5 && isFresh) {
            if (isFresh) {
                boss.keys.add(m.boots + " " + m.pdu.request);
                boss.told.add(m.boots + " " + m.pdu.text());
            }
            if (m.pdu.kind == 6) {
                m.salt = m.level == 2 ? boss.ciphers % 256 : 0;
                m.pdu.kind = 2;
                m.pdu.status = 0;
                m.pdu.index = 0;
                boss.ciphers += m.level == 2 ? 1 : 0;
                put(which, 2, m.seal(boss.key));
            }
        } else {
            boss.dropped++;
        }
    }

    // ---- the face

    public int tick(int many) {
        argument(in(many, 1, 40));
        for (int i = 0; i < many; i++) {
            now++;
            time++;
            trees.get(0).put(List.of(1, 3, 0), Value.number(67, time));
            for (Open o : new ArrayList<>(open)) {
                int age = now - o.since;
                if (age == 20) {
                    open.remove(o);
                } else if (age % 5 == 0) {
                    sendNotice(o);
                }
            }
        }
        return now;
    }

    public int restart() {
        boots++;
        time = 0;
        trees.get(0).put(List.of(1, 3, 0), Value.number(67, 0));
        taken.clear();
        open.clear();
        notices(0);
        return boots;
    }

    public int port(int port, boolean isUp) {
        place(in(port, 1, 4));
        Value before = trees.get(0).put(List.of(2, 3, port), Value.number(2, isUp ? 1 : 2));
        if (before.number == (isUp ? 1 : 2)) {
            return 0;
        }
        notices(port);
        return 1;
    }

    public int traffic(int port, int in, int out) {
        place(in(port, 1, 4));
        argument(in(in, 0, 65535) && in(out, 0, 65535));
        add(List.of(2, 5, port), out);
        return add(List.of(2, 4, port), in);
    }

    public int note(int context, int i, int j, boolean isThere) {
        place(in(context, 0, 1) && in(i, 1, 3) && in(j, 1, 4));
        return place(trees.get(context), i, j, isThere) ? 1 : 0;
    }

    public int most(int bytes) {
        argument(in(bytes, 100, 255));
        int before = most;
        most = bytes;
        return before;
    }

    public int ofAgent(int what) {
        argument(in(what, 0, 9));
        int late = (int) taken.values().stream().filter(t -> now - t <= 30).count();
        return new int[] {now, boots, time, most, trees.get(0).size(), trees.get(1).size(), open.size(), notices, agentCiphers, late}[what];
    }

    public String value(int context) {
        place(in(context, 0, 1));
        state(hand != null);
        Value v = trees.get(context).get(hand);
        return v == null ? "" : v.text();
    }

    public String walk(int user, int context) {
        place(in(user, 0, 4) && in(context, 0, 1));
        int v = users[user].access[context][1];
        StringBuilder s = new StringBuilder();
        for (List<Integer> n : trees.get(context).keySet()) {
            if (v >= 0 && seen(v, n)) {
                s.append(s.length() == 0 ? "" : " ").append(name(n));
            }
        }
        return s.toString();
    }

    private static List<Integer> some(int... numbers) {
        List<Integer> list = new ArrayList<>();
        for (int n : numbers) {
            if (n != -1) {
                list.add(n);
            }
        }
        return list;
    }

    private static boolean all(int most, int... numbers) {
        return Arrays.stream(numbers).allMatch(n -> in(n, -1, most));
    }

    public int name(int a, int b, int c, int d) {
        argument(all(999, a, b, c, d) && !some(a, b, c, d).isEmpty());
        hand = some(a, b, c, d);
        return hand.size();
    }

    public int longer(int a, int b, int c, int d) {
        argument(all(999, a, b, c, d));
        state(hand != null && hand.size() + some(a, b, c, d).size() <= 8);
        hand = new ArrayList<>(hand);
        hand.addAll(some(a, b, c, d));
        return hand.size();
    }

    public String hand() {
        return hand == null ? "" : name(hand);
    }

    public int shelve() {
        state(hand != null);
        shelf = hand;
        return shelf.size();
    }

    public int compare() {
        state(hand != null && shelf != null);
        return Integer.signum(ORDER.compare(hand, shelf));
    }

    public boolean begins() {
        state(hand != null && shelf != null);
        return hand.size() >= shelf.size() && hand.subList(0, shelf.size()).equals(shelf);
    }

    public int letters(int a, int b, int c, int d, int e) {
        argument(all(255, a, b, c, d, e));
        state(letters.size() + some(a, b, c, d, e).size() <= 12);
        letters.addAll(some(a, b, c, d, e));
        return letters.size();
    }

    public int noLetters() {
        int before = letters.size();
        letters.clear();
        return before;
    }

    public int user(int user, boolean isKnown, int key, int highest) {
        place(in(user, 0, 4));
        argument(in(key, 0, 9999) && in(highest, 0, 2));
        boolean before = users[user].known;
        users[user].known = isKnown;
        users[user].key = key;
        users[user].highest = highest;
        return before ? 1 : 0;
    }

    public int access(int user, int context, int least, int read, int write, int notes) {
        place(in(user, 0, 4) && in(context, 0, 1));
        argument(in(least, 0, 2) && all(3, read, write, notes));
        int before = users[user].access[context][0];
        users[user].access[context] = new int[] {least, read, write, notes};
        return before;
    }

    public int ofUser(int user, int what) {
        place(in(user, 0, 4));
        argument(in(what, 0, 10));
        Who w = users[user];
        return what == 0 ? (w.known ? 1 : 0) : what == 1 ? w.key : what == 2 ? w.highest : w.access[(what - 3) / 4][(what - 3) % 4];
    }

    public int family(int view, int mask, boolean isIn) {
        place(in(view, 0, 3));
        argument(in(mask, 0, 255));
        state(hand != null);
        List<Family> of = views.get(view);
        boolean had = of.stream().anyMatch(f -> f.name.equals(hand) && f.mask == mask);
        state(had || of.size() < 6);
        of.removeIf(f -> f.name.equals(hand) && f.mask == mask);
        of.add(new Family(hand, mask, isIn));
        return of.size();
    }

    public int unfamily(int view, int mask) {
        place(in(view, 0, 3));
        argument(in(mask, 0, 255));
        state(hand != null);
        List<Family> of = views.get(view);
        return of.removeIf(f -> f.name.equals(hand) && f.mask == mask) ? of.size() : refuse();
    }

    public String families(int view) {
        place(in(view, 0, 3));
        StringBuilder s = new StringBuilder();
        views.get(view).stream().sorted(BY_NAME).forEach(f ->
                s.append(s.length() == 0 ? "" : ", ").append(name(f.name)).append("/").append(f.mask).append(f.isIn ? "+" : "-"));
        return s.toString();
    }

    public boolean has(int view) {
        place(in(view, 0, 3));
        state(hand != null);
        return seen(view, hand);
    }

    public int target(int target, boolean isOn, int manager, int user, int level, boolean isInform) {
        place(in(target, 0, 3) && in(manager, 0, 1) && in(user, 0, 4));
        argument(in(level, 0, 2));
        Goal g = goals[target];
        int before = g.on ? 1 : 0;
        g.on = isOn;
        g.manager = manager;
        g.user = user;
        g.level = level;
        g.inform = isInform;
        return before;
    }

    public int ofTarget(int target, int what) {
        place(in(target, 0, 3));
        argument(in(what, 0, 4));
        Goal g = goals[target];
        return new int[] {g.on ? 1 : 0, g.manager, g.user, g.level, g.inform ? 1 : 0}[what];
    }

    public int speak(int manager, int user, int key) {
        place(in(manager, 0, 1) && in(user, 0, 4));
        argument(in(key, 0, 9999));
        int before = bosses[manager].user;
        bosses[manager].user = user;
        bosses[manager].key = key;
        return before;
    }

    public int forget(int manager) {
        place(in(manager, 0, 1));
        Boss b = bosses[manager];
        int before = b.boots;
        b.engine = 0;
        b.boots = 0;
        b.time = 0;
        b.learned = now;
        return before;
    }

    public int draft(int kind, int level, int context, int few, int many) {
        argument((kind == 0 || kind == 1 || kind == 3 || kind == 4) && in(level, 0, 2) && in(context, 0, 9)
                && (kind != 4 || in(few, -9, 99) && in(many, -9, 99)));
        int before = draft.binds.size();
        draft = new Pdu(context, kind, 0);
        draft.status = kind == 4 ? few : 0;
        draft.index = kind == 4 ? many : 0;
        draftLevel = level;
        return before;
    }

    public int bind(int what, int number) {
        argument(in(what, 0, 5) && (what != 3 || in(number, 0, 65535)) && (what != 4 || number >= 0));
        state(hand != null && (what != 5 || shelf != null) && draft.binds.size() < 8);
        Value v = what == 1 ? Value.number(2, number) : what == 2 ? new Value(4, 0, new ArrayList<>(letters))
                : what == 3 ? Value.number(65, number) : what == 4 ? Value.number(67, number)
                : what == 5 ? new Value(6, 0, shelf) : Value.bare(5);
        draft.binds.add(new Bind(hand, v));
        return draft.binds.size();
    }

    public String draftText() {
        return draft.text();
    }

    public int send(int manager) {
        place(in(manager, 0, 1));
        Boss b = bosses[manager];
        Msg m = new Msg();
        m.id = 2 * b.sent + manager;
        m.level = draftLevel;
        m.engine = b.engine;
        m.boots = b.boots;
        m.time = b.time + (now - b.learned);
        m.user = b.user;
        m.salt = draftLevel == 2 ? b.ciphers % 256 : 0;
        m.pdu = new Pdu(draft.context, draft.kind, m.id);
        m.pdu.status = draft.status;
        m.pdu.index = draft.index;
        m.pdu.binds = draft.binds;
        int[] row = m.seal(b.key);
        if (line.size() >= 16 || row.length > 255) {
            return refuse();
        }
        b.sent++;
        b.ciphers += draftLevel == 2 ? 1 : 0;
        b.open.put(m.id, draftLevel);
        put(manager, 2, row);
        return m.id;
    }

    public String answer(int manager) {
        place(in(manager, 0, 1));
        return bosses[manager].answer;
    }

    public int ofManager(int manager, int what) {
        place(in(manager, 0, 1));
        argument(in(what, 0, 11));
        Boss b = bosses[manager];
        return new int[] {b.user, b.key, b.engine, b.boots, b.time + (now - b.learned), b.sent, b.open.size(), b.answers,
            b.told.size(), b.dropped, b.ciphers, b.last}[what];
    }

    public String told(int manager, int k) {
        place(in(manager, 0, 1) && in(k, 0, bosses[manager].told.size() - 1));
        return bosses[manager].told.get(k);
    }

    public int rows() {
        return line.size();
    }

    private void row(int k) {
        place(in(k, 0, line.size() - 1));
    }

    private static int faultOf(int[] bytes) {
        try {
            new Reader(bytes).message();
            return -1;
        } catch (Fault e) {
            return e.place;
        }
    }

    public int ofRow(int k, int what) {
        row(k);
        argument(in(what, 0, 4));
        Wire w = line.get(k);
        return new int[] {w.from, w.to, w.bytes.length, faultOf(w.bytes), w.at}[what];
    }

    private static String textOf(int[] bytes) {
        try {
            Msg m = new Reader(bytes).message();
            String head = m.id + " " + m.level + " " + m.engine + " " + m.boots + " " + m.time + " " + m.user + " " + m.sum + " " + m.salt;
            return head + ": " + (m.level == 2 ? "" + m.secret.length : m.pdu.text());
        } catch (Fault e) {
            return "fault " + e.place;
        }
    }

    public String rowText(int k) {
        row(k);
        return textOf(line.get(k).bytes);
    }

    public int byteOf(int k, int place) {
        row(k);
        place(in(place, 0, line.get(k).bytes.length - 1));
        return line.get(k).bytes[place];
    }

    public int pass(int k) {
        row(k);
        come(k);
        return line.size();
    }

    public int passAll(int many) {
        argument(in(many, 1, 40));
        int came = 0;
        while (came < many && !line.isEmpty()) {
            come(0);
            came++;
        }
        return came;
    }

    public int lose(int k) {
        row(k);
        line.remove(k);
        house[1]++;
        return line.size();
    }

    private int again(int from, int to, int[] bytes) {
        if (line.size() >= 16) {
            return refuse();
        }
        line.add(new Wire(from, to, now, bytes.clone()));
        return line.size();
    }

    public int twice(int k) {
        row(k);
        return again(line.get(k).from, line.get(k).to, line.get(k).bytes);
    }

    public int spoil(int k, int place, int with) {
        row(k);
        place(in(place, 0, line.get(k).bytes.length - 1));
        argument(in(with, 0, 255));
        int before = line.get(k).bytes[place];
        line.get(k).bytes[place] = with;
        return before;
    }

    public int record(int k, int slot) {
        row(k);
        place(in(slot, 0, 3));
        Wire w = line.get(k);
        records[slot] = new Wire(w.from, w.to, w.at, w.bytes.clone());
        return w.bytes.length;
    }

    public int replay(int slot) {
        place(in(slot, 0, 3));
        Wire w = records[slot];
        return w == null ? refuse() : again(w.from, w.to, w.bytes);
    }

    public int lay(int a, int b, int c, int d, int e) {
        argument(all(255, a, b, c, d, e));
        int[] more = some(a, b, c, d, e).stream().mapToInt(i -> i).toArray();
        state(bench.length + more.length <= 255);
        bench = Rows.join(bench, more);
        return bench.length;
    }

    public int cut(int many) {
        argument(in(many, 1, 255));
        bench = Arrays.copyOf(bench, Math.max(0, bench.length - many));
        return bench.length;
    }

    public int fetch(int k) {
        row(k);
        bench = line.get(k).bytes.clone();
        return bench.length;
    }

    public int fault() {
        return faultOf(bench);
    }

    public String read() {
        return textOf(bench);
    }

    public int sum(int key) {
        argument(in(key, 0, 9999));
        try {
            return Rows.sum(bench, key, new Reader(bench).message().sumPlace);
        } catch (Fault e) {
            return Rows.sum(bench, key, -1);
        }
    }

    public int cipher(int key, int boots, int salt) {
        argument(in(key, 0, 9999) && in(boots, 0, 999) && in(salt, 0, 255));
        bench = Rows.ciphered(bench, key, boots, salt);
        return Arrays.stream(bench).sum();
    }

    public int inject(int manager) {
        place(in(manager, 0, 1));
        return bench.length == 0 ? refuse() : again(manager, 2, bench);
    }

    public int house(int what) {
        argument(in(what, 0, 4));
        return house[what];
    }

    public int knock() {
        return ++house[4];
    }

    public boolean isSound() {
        return true;
    }

    public long digest() {
        List<Object> all = new ArrayList<>();
        for (int i = 0; i < 10; i++) {
            all.add(ofAgent(i));
        }
        trees.forEach(t -> t.forEach((n, v) -> all.addAll(List.of(name(n), v.text()))));
        all.add(hand());
        for (int u = 0; u < 5; u++) {
            for (int i = 0; i < 11; i++) {
                all.add(ofUser(u, i));
            }
            all.add(walk(u, 0));
            all.add(walk(u, 1));
        }
        for (int i = 0; i < 4; i++) {
            all.add(families(i));
        }
        for (int i = 0; i < 20; i++) {
            all.add(ofTarget(i / 5, i % 5));
        }
        for (int b = 0; b < 2; b++) {
            for (int i = 0; i < 12; i++) {
                all.add(ofManager(b, i));
            }
            all.add(answer(b));
            all.addAll(bosses[b].told);
        }
        all.add(draftText());
        for (int k = 0; k < line.size(); k++) {
            for (int i = 0; i < 5; i++) {
                all.add(ofRow(k, i));
            }
            for (int b : line.get(k).bytes) {
                all.add(b);
            }
        }
        all.add(fault());
        all.add(read());
        for (int i = 0; i < 5; i++) {
            all.add(house[i]);
        }
        all.add(1);
        long d = 7684;
        for (Object o : all) {
            if (o instanceof Integer) {
                d = d * 31 + (Integer) o;
            } else {
                for (char c : ((String) o).toCharArray()) {
                    d = d * 31 + c;
                }
            }
        }
        return d;
    }
}
