import java.util.ArrayList;
import java.util.Arrays;

/** An agent with its tree, two managers, and the line between them: what the words in capitals mean, the document tells. */
public final class Agenttree {
    private static final int NONE = -1;
    private static final int REFUSED = -9;

    private static final int MANAGERS = 2;
    private static final int AGENT = 2;
    private static final int ENGINE = 7;

    private static final int CONTEXTS = 2;
    private static final int USERS = 5;
    private static final int VIEWS = 4;
    private static final int TARGETS = 4;
    private static final int PORTS = 4;
    private static final int NOTES = 12;

    private static final int MOST_NUMBERS = 8;
    private static final int GREATEST_NUMBER = 999;
    private static final int MOST_OCTETS = 12;
    private static final int MOST_SET_OCTETS = 8;
    private static final int MOST_BINDINGS = 8;
    private static final int MOST_BYTES = 255;
    private static final int MOST_ROWS = 16;
    private static final int RECORDS = 4;
    private static final int MOST_FAMILIES = 6;
    private static final int MOST_CALLS = 512;
    private static final int COUNTER_END = 65536;
    private static final int LEAST_INTEGER = -2147483648;
    private static final int GREATEST_INTEGER = 2147483647;
    private static final int GREATEST_KEY = 9999;

    private static final int TAG_INTEGER = 2;
    private static final int TAG_OCTETS = 4;
    private static final int TAG_NULL = 5;
    private static final int TAG_NAME = 6;
    private static final int TAG_LIST = 48;
    private static final int TAG_COUNTER = 65;
    private static final int TAG_TICKS = 67;
    private static final int TAG_NO_OBJECT = 128;
    private static final int TAG_NO_INSTANCE = 129;
    private static final int TAG_END = 130;
    private static final int TAG_PDU = 160;

    private static final int GET = 0;
    private static final int NEXT = 1;
    private static final int RESPONSE = 2;
    private static final int SET = 3;
    private static final int BULK = 4;
    private static final int TRAP = 5;
    private static final int INFORM = 6;
    private static final int REPORT = 7;

    // What the agent judges of a row: it is let, or the COUNTER 4.x.0 that tells why not.
    private static final int LET = 0;
    private static final int CAME = 1;
    private static final int FAULTY = 2;
    private static final int FOREIGN = 3;
    private static final int UNKNOWN = 4;
    private static final int TOO_HIGH = 5;
    private static final int BADLY_SUMMED = 6;
    private static final int NOT_IN_TIME = 7;
    private static final int NOT_DECIPHERED = 8;

    private static final int STATUS_DONE = 0;
    private static final int STATUS_TOO_BIG = 1;
    private static final int STATUS_NO_VIEW = 6;
    private static final int STATUS_OTHER_TAG = 7;
    private static final int STATUS_TOO_LONG = 8;
    private static final int STATUS_NOT_LET = 10;
    private static final int STATUS_NO_NAME = 11;
    private static final int STATUS_CLASH = 12;
    private static final int STATUS_NO_ACCESS = 16;
    private static final int STATUS_NOT_SETTABLE = 17;

    // What ofUser() numbers; behind the first three a group of four for each CONTEXT.
    private static final int USER_NUMBERS = 11;
    private static final int IS_KNOWN = 0;
    private static final int KEY = 1;
    private static final int HIGHEST = 2;
    private static final int LEAST = 3;
    private static final int READ_VIEW = 4;
    private static final int WRITE_VIEW = 5;
    private static final int NOTE_VIEW = 6;
    private static final int CONTEXT_STEP = 4;

    // What ofTarget() numbers.
    private static final int TARGET_NUMBERS = 5;
    private static final int IS_ON = 0;
    private static final int TO_MANAGER = 1;
    private static final int AS_USER = 2;
    private static final int AT_LEVEL = 3;
    private static final int BY_INFORM = 4;

    private static final int NOTE_COMES = 4;
    private static final int NOTE_GOES = 6;

    private final Agent agent = new Agent();
    private final Manager[] managers = new Manager[MANAGERS];
    private final Line line = new Line();
    private final Coder coder = new Coder();
    private final StringBuilder text = new StringBuilder();
    private final Name inHand = new Name();
    private final Name onShelf = new Name();
    private final Binding octets = new Binding();
    private final Message draft = new Message();
    private final Row bench = new Row();
    private final Row rowIn = new Row();
    private final Row rowOut = new Row();
    private final Message in = new Message();
    private final Message out = new Message();
    private int refused;
    private int knocks;

    public Agenttree() {
        for (int i = 0; i < MANAGERS; i++) {
            managers[i] = new Manager(i);
        }
        octets.tag = TAG_OCTETS;
    }

    private static boolean isWithin(int number, int least, int greatest) {
        return number >= least && number <= greatest;
    }

    private static void needPlace(boolean isThere) {
        if (!isThere) {
            throw new IndexOutOfBoundsException("there is no such one");
        }
    }

    private static void needArgument(boolean isLet) {
        if (!isLet) {
            throw new IllegalArgumentException("an argument is not let");
        }
    }

    private static void needState(boolean isSo) {
        if (!isSo) {
            throw new IllegalStateException("not in this state");
        }
    }

    private int refuse() {
        refused++;
        return REFUSED;
    }

    private StringBuilder blankText() {
        text.setLength(0);
        return text;
    }

    // ---- the agent

    public int tick(int many) throws IllegalArgumentException {
        needArgument(isWithin(many, 1, 40));
        for (int i = 0; i < many; i++) {
            passOneTick();
        }
        agent.forgetOldRows();
        return agent.now;
    }

    private void passOneTick() {
        agent.now++;
        agent.tree.setTime(agent.tree.time() + 1);
        for (int i = 0; i < agent.informs.size(); i++) {
            Notice inform = agent.informs.get(i);
            int age = agent.now - inform.since;
            if (age == 5 || age == 10 || age == 15) {
                agent.writeNotice(out, inform);
                transmit(agent.userNumber(inform.user, KEY), AGENT, inform.manager);
            }
        }
        agent.endOldInforms();
    }

    public int restart() {
        agent.beginAnew();
        notifyTargets(0);
        return agent.boots;
    }

    public int port(int port, boolean isUp) throws IndexOutOfBoundsException {
        needPlace(isWithin(port, 1, PORTS));
        Binding state = agent.tree.at(0, Tree.slotOfPort(3, port));
        int next = isUp ? 1 : 2;
        if (state.number == next) {
            return 0;
        }
        state.number = next;
        notifyTargets(port);
        return 1;
    }

    public int traffic(int port, int in, int out) throws IndexOutOfBoundsException, IllegalArgumentException {
        needPlace(isWithin(port, 1, PORTS));
        needArgument(isWithin(in, 0, COUNTER_END - 1) && isWithin(out, 0, COUNTER_END - 1));
        agent.tree.count(Tree.slotOfPort(5, port), out);
        return agent.tree.count(Tree.slotOfPort(4, port), in);
    }

    public int note(int context, int i, int j, boolean isThere) throws IndexOutOfBoundsException {
        needPlace(isWithin(context, 0, CONTEXTS - 1) && isWithin(i, 1, 3) && isWithin(j, 1, 4));
        return agent.tree.setNote(context, Tree.noteOf(i, j), isThere) ? 1 : 0;
    }

    public int most(int bytes) throws IllegalArgumentException {
        needArgument(isWithin(bytes, 100, MOST_BYTES));
        int before = agent.most;
        agent.most = bytes;
        return before;
    }

    public int ofAgent(int what) throws IllegalArgumentException {
        needArgument(isWithin(what, 0, 9));
        switch (what) {
            case 0: return agent.now;
            case 1: return agent.boots;
            case 2: return agent.tree.time();
            case 3: return agent.most;
            case 4: return agent.tree.sizeOf(0);
            case 5: return agent.tree.sizeOf(1);
            case 6: return agent.informs.size();
            case 7: return agent.lastNotice;
            case 8: return line.ciphered[AGENT];
            default: return agent.taken;
        }
    }

    public String value(int context) throws IndexOutOfBoundsException, IllegalStateException {
        needPlace(isWithin(context, 0, CONTEXTS - 1));
        needState(inHand.count > 0);
        StringBuilder into = blankText();
        int slot = agent.tree.find(context, inHand);
        if (slot != NONE) {
            agent.tree.at(context, slot).writeValue(into);
        }
        return into.toString();
    }

    public String walk(int user, int context) throws IndexOutOfBoundsException {
        needPlace(isWithin(user, 0, USERS - 1) && isWithin(context, 0, CONTEXTS - 1));
        writeWalk(user, context);
        return text.toString();
    }

    private void writeWalk(int user, int context) {
        StringBuilder into = blankText();
        View view = agent.viewOf(user, READ_VIEW + context * CONTEXT_STEP);
        if (view == null) {
            return;
        }
        for (int slot = 0; slot < Tree.SLOTS; slot++) {
            if (agent.tree.isThere(context, slot) && view.holds(agent.tree.at(context, slot).name)) {
                if (into.length() > 0) {
                    into.append(' ');
                }
                agent.tree.at(context, slot).name.writeTo(into);
            }
        }
    }

    // ---- what is in hand

    private static boolean areNumbers(int a, int b, int c, int d) {
        return isWithin(a, NONE, GREATEST_NUMBER) && isWithin(b, NONE, GREATEST_NUMBER)
                && isWithin(c, NONE, GREATEST_NUMBER) && isWithin(d, NONE, GREATEST_NUMBER);
    }

    private static boolean areBytes(int a, int b, int c, int d, int e) {
        return isWithin(a, NONE, 255) && isWithin(b, NONE, 255) && isWithin(c, NONE, 255)
                && isWithin(d, NONE, 255) && isWithin(e, NONE, 255);
    }

    private static int countOf(int a, int b, int c, int d, int e) {
        return (a == NONE ? 0 : 1) + (b == NONE ? 0 : 1) + (c == NONE ? 0 : 1)
                + (d == NONE ? 0 : 1) + (e == NONE ? 0 : 1);
    }

    public int name(int a, int b, int c, int d) throws IllegalArgumentException {
        needArgument(areNumbers(a, b, c, d) && countOf(a, b, c, d, NONE) > 0);
        inHand.become(a, b, c, d);
        return inHand.count;
    }

    public int longer(int a, int b, int c, int d) throws IllegalArgumentException, IllegalStateException {
        needArgument(areNumbers(a, b, c, d));
        needState(inHand.count > 0 && inHand.count + countOf(a, b, c, d, NONE) <= MOST_NUMBERS);
        inHand.grow(a, b, c, d);
        return inHand.count;
    }

    public String hand() {
        StringBuilder into = blankText();
        inHand.writeTo(into);
        return into.toString();
    }

    public int shelve() throws IllegalStateException {
        needState(inHand.count > 0);
        onShelf.take(inHand);
        return onShelf.count;
    }

    public int compare() throws IllegalStateException {
        needState(inHand.count > 0 && onShelf.count > 0);
        return inHand.compareWith(onShelf);
    }

    public boolean begins() throws IllegalStateException {
        needState(inHand.count > 0 && onShelf.count > 0);
        return inHand.beginsWith(onShelf);
    }

    public int letters(int a, int b, int c, int d, int e) throws IllegalArgumentException, IllegalStateException {
        needArgument(areBytes(a, b, c, d, e));
        needState(octets.count + countOf(a, b, c, d, e) <= MOST_OCTETS);
        octets.add(a);
        octets.add(b);
        octets.add(c);
        octets.add(d);
        octets.add(e);
        return octets.count;
    }

    public int noLetters() {
        int before = octets.count;
        octets.count = 0;
        return before;
    }

    // ---- users, views

    public int user(int user, boolean isKnown, int key, int highest)
            throws IndexOutOfBoundsException, IllegalArgumentException {
        needPlace(isWithin(user, 0, USERS - 1));
        needArgument(isWithin(key, 0, GREATEST_KEY) && isWithin(highest, 0, 2));
        int before = agent.userNumber(user, IS_KNOWN);
        agent.setUser(user, IS_KNOWN, isKnown ? 1 : 0);
        agent.setUser(user, KEY, key);
        agent.setUser(user, HIGHEST, highest);
        return before;
    }

    public int access(int user, int context, int least, int read, int write, int notes)
            throws IndexOutOfBoundsException, IllegalArgumentException {
        needPlace(isWithin(user, 0, USERS - 1) && isWithin(context, 0, CONTEXTS - 1));
        needArgument(isWithin(least, 0, 2) && isWithin(read, NONE, VIEWS - 1)
                && isWithin(write, NONE, VIEWS - 1) && isWithin(notes, NONE, VIEWS - 1));
        int group = context * CONTEXT_STEP;
        int before = agent.userNumber(user, LEAST + group);
        agent.setUser(user, LEAST + group, least);
        agent.setUser(user, READ_VIEW + group, read);
        agent.setUser(user, WRITE_VIEW + group, write);
        agent.setUser(user, NOTE_VIEW + group, notes);
        return before;
    }

    public int ofUser(int user, int what) throws IndexOutOfBoundsException, IllegalArgumentException {
        needPlace(isWithin(user, 0, USERS - 1));
        needArgument(isWithin(what, 0, USER_NUMBERS - 1));
        return agent.userNumber(user, what);
    }

    public int family(int view, int mask, boolean isIn)
            throws IndexOutOfBoundsException, IllegalArgumentException, IllegalStateException {
        needPlace(isWithin(view, 0, VIEWS - 1));
        needArgument(isWithin(mask, 0, 255));
        View of = agent.views[view];
        needState(inHand.count > 0 && (of.count < MOST_FAMILIES || of.find(inHand, mask) != NONE));
        of.put(inHand, mask, isIn);
        return of.count;
    }

    public int unfamily(int view, int mask)
            throws IndexOutOfBoundsException, IllegalArgumentException, IllegalStateException {
        needPlace(isWithin(view, 0, VIEWS - 1));
        needArgument(isWithin(mask, 0, 255));
        needState(inHand.count > 0);
        View of = agent.views[view];
        int place = of.find(inHand, mask);
        if (place == NONE) {
            return refuse();
        }
        of.remove(place);
        return of.count;
    }

    public String families(int view) throws IndexOutOfBoundsException {
        needPlace(isWithin(view, 0, VIEWS - 1));
        StringBuilder into = blankText();
        agent.views[view].writeTo(into);
        return into.toString();
    }

    public boolean has(int view) throws IndexOutOfBoundsException, IllegalStateException {
        needPlace(isWithin(view, 0, VIEWS - 1));
        needState(inHand.count > 0);
        return agent.views[view].holds(inHand);
    }

    // ---- targets

    public int target(int target, boolean isOn, int manager, int user, int level, boolean isInform)
            throws IndexOutOfBoundsException, IllegalArgumentException {
        needPlace(isWithin(target, 0, TARGETS - 1) && isManager(manager) && isWithin(user, 0, USERS - 1));
        needArgument(isWithin(level, 0, 2));
        int before = agent.targetNumber(target, IS_ON);
        agent.setTarget(target, IS_ON, isOn ? 1 : 0);
        agent.setTarget(target, TO_MANAGER, manager);
        agent.setTarget(target, AS_USER, user);
        agent.setTarget(target, AT_LEVEL, level);
        agent.setTarget(target, BY_INFORM, isInform ? 1 : 0);
        return before;
    }

    public int ofTarget(int target, int what) throws IndexOutOfBoundsException, IllegalArgumentException {
        needPlace(isWithin(target, 0, TARGETS - 1));
        needArgument(isWithin(what, 0, TARGET_NUMBERS - 1));
        return agent.targetNumber(target, what);
    }

    /** Tells each TARGET that a PORT became another one, or (by 0) that the agent began anew. */
    private void notifyTargets(int port) {
        for (int target = 0; target < TARGETS; target++) {
            if (agent.isToBeTold(target, port)) {
                Notice notice = agent.newNotice(target, port);
                agent.writeNotice(out, notice);
                transmit(agent.userNumber(notice.user, KEY), AGENT, notice.manager);
            }
        }
    }

    // ---- managers

    private static boolean isManager(int manager) {
        return isWithin(manager, 0, MANAGERS - 1);
    }

    public int speak(int manager, int user, int key) throws IndexOutOfBoundsException, IllegalArgumentException {
        needPlace(isManager(manager) && isWithin(user, 0, USERS - 1));
        needArgument(isWithin(key, 0, GREATEST_KEY));
        Manager speaker = managers[manager];
        int before = speaker.user;
        speaker.user = user;
        speaker.key = key;
        return before;
    }

    public int forget(int manager) throws IndexOutOfBoundsException {
        needPlace(isManager(manager));
        Manager forgetful = managers[manager];
        int before = forgetful.boots;
        forgetful.learn(0, 0, 0, agent.now);
        return before;
    }

    public int draft(int kind, int level, int context, int few, int many) throws IllegalArgumentException {
        boolean isBulk = kind == BULK;
        needArgument((kind == GET || kind == NEXT || kind == SET || isBulk) && isWithin(level, 0, 2)
                && isWithin(context, 0, 9) && (!isBulk || isWithin(few, -9, 99) && isWithin(many, -9, 99)));
        int before = draft.count;
        draft.level = level;
        draft.beginScope(kind, context, 0);
        draft.status = isBulk ? few : 0;
        draft.index = isBulk ? many : 0;
        return before;
    }

    public int bind(int what, int number) throws IllegalArgumentException, IllegalStateException {
        needArgument(isWithin(what, 0, 5) && (what != 3 || isWithin(number, 0, COUNTER_END - 1))
                && (what != 4 || number >= 0));
        needState(inHand.count > 0 && (what != 5 || onShelf.count > 0) && draft.count < MOST_BINDINGS);
        Binding binding = draft.add(inHand);
        switch (what) {
            case 1: binding.setNumber(TAG_INTEGER, number); break;
            case 2: binding.takeValue(octets); break;
            case 3: binding.setNumber(TAG_COUNTER, number); break;
            case 4: binding.setNumber(TAG_TICKS, number); break;
            case 5: binding.setName(onShelf); break;
            default: binding.setNumber(TAG_NULL, 0); break;
        }
        return draft.count;
    }

    public String draftText() {
        StringBuilder into = blankText();
        draft.writeScope(into);
        return into.toString();
    }

    public int send(int manager) throws IndexOutOfBoundsException {
        needPlace(isManager(manager));
        Manager sender = managers[manager];
        sender.address(out, sender.nextId(), draft.level, agent.now);
        out.takeScope(draft);
        out.request = out.id;
        out.salt = line.saltOf(manager, out.level);
        if (line.isFull() || coder.encode(out, sender.key, rowOut) > MOST_BYTES) {
            return refuse();
        }
        int id = out.id;
        sender.openDraft(draft.level);
        transmit(sender.key, manager, AGENT);
        return id;
    }

    public String answer(int manager) throws IndexOutOfBoundsException {
        needPlace(isManager(manager));
        return managers[manager].answerText;
    }

    public int ofManager(int manager, int what) throws IndexOutOfBoundsException, IllegalArgumentException {
        needPlace(isManager(manager));
        needArgument(isWithin(what, 0, 11));
        Manager of = managers[manager];
        switch (what) {
            case 0: return of.user;
            case 1: return of.key;
            case 2: return of.engine;
            case 3: return of.boots;
            case 4: return of.timeAt(agent.now);
            case 5: return of.drafts;
            case 6: return of.open;
            case 7: return of.answers;
            case 8: return of.notices.size();
            case 9: return of.dropped;
            case 10: return line.ciphered[manager];
            default: return of.lastAnswer;
        }
    }

    public String told(int manager, int k) throws IndexOutOfBoundsException {
        needPlace(isManager(manager) && isWithin(k, 0, managers[manager].notices.size() - 1));
        return managers[manager].notices.get(k).text;
    }

    // ---- what comes

    /** Encodes what is to go out, and gives it to the LINE (a row without bytes would have too many). */
    private void transmit(int key, int from, int to) {
        out.salt = line.saltOf(from, out.level);
        coder.encode(out, key, rowOut);
        rowOut.from = from;
        rowOut.to = to;
        rowOut.at = agent.now;
        line.countSent(from, out.level);
        if (line.isFull() || rowOut.length == 0) {
            line.lost++;
        } else {
            line.append(rowOut);
        }
    }

    /** A row under way comes to whom it is under way to. */
    private void come(int k) {
        rowIn.takeRow(line.rows[k]);
        line.remove(k);
        line.came++;
        int fault = coder.readRow(rowIn, in);
        if (isManager(rowIn.to)) {
            Manager manager = managers[rowIn.to];
            if (isLetByManager(manager, fault)) {
                takeByManager(manager);
            } else {
                manager.dropped++;
            }
            return;
        }
        int verdict = judgeByAgent(fault);
        if (verdict != LET) {
            report(verdict);
            return;
        }
        int changed = obey();
        for (int port = 1; port <= PORTS; port++) {
            if ((changed >> port & 1) == 1) {
                notifyTargets(port);
            }
        }
    }

    private int judgeByAgent(int fault) {
        agent.tree.count(Tree.slotOfCounter(CAME), 1);
        int verdict = agent.judge(in, rowIn, fault);
        if (verdict == LET && in.level == 2
                && !coder.decipher(rowIn, in, agent.userNumber(in.user, KEY))) {
            return NOT_DECIPHERED;
        }
        return verdict;
    }

    /** Counts a row that is not let, and REPORTS it, if the verdict is above 0. */
    private void report(int verdict) {
        int slot = Tree.slotOfCounter(Math.abs(verdict));
        agent.tree.count(slot, 1);
        if (verdict < 0) {
            return;
        }
        agent.address(out, in.id, in.user, verdict == NOT_IN_TIME ? 1 : 0);
        out.beginScope(REPORT, 0, 0);
        agent.tree.writeObject(out, slot);
        transmit(agent.userNumber(in.user, KEY), AGENT, rowIn.from);
    }

    /** Does what a row asks for; returns the PORTS that became other ones, as the sum of 2^PORT. */
    private int obey() {
        if (in.kind == RESPONSE) {
            agent.endInform(in.request, in.user, in.level);
        }
        if (in.kind != GET && in.kind != NEXT && in.kind != SET && in.kind != BULK) {
            return 0;
        }
        agent.address(out, in.id, in.user, in.level);
        out.beginScope(RESPONSE, in.context, in.request);
        View view = agent.viewFor(in);
        if (view == null) {
            out.status = STATUS_NO_ACCESS;
        } else {
            switch (in.kind) {
                case GET: agent.tree.answerGet(in, view, out); break;
                case NEXT: agent.tree.answerNext(in, view, out); break;
                case BULK: agent.tree.answerBulk(in, view, out); break;
                default: agent.tree.answerSet(in, view, out); break;
            }
        }
        int key = agent.userNumber(in.user, KEY);
        fitToMost(key);
        int changed = in.kind == SET && out.status == STATUS_DONE ? agent.tree.change(in) : 0;
        transmit(key, AGENT, rowIn.from);
        return changed;
    }

    private void fitToMost(int key) {
        out.salt = line.saltOf(AGENT, out.level);
        for (int i = 0; i <= MOST_BINDINGS && coder.encode(out, key, rowOut) > agent.most; i++) {
            if (in.kind == BULK && out.count > 0) {
                out.count--;
            } else {
                out.status = STATUS_TOO_BIG;
                out.index = 0;
                out.count = 0;
            }
        }
    }

    /** Whether a MANAGER takes a row for one of the agent; it learns of it then, and deciphers it. */
    private boolean isLetByManager(Manager manager, int fault) {
        boolean isTrusted = fault == NONE && in.user == manager.user
                && (in.level == 0 || rowIn.sumBy(manager.key, in.sumPlace) == in.sum);
        if (isTrusted && manager.isNews(in, agent.now)) {
            manager.learn(in.engine, in.boots, in.time, agent.now);
        }
        return isTrusted && (in.level < 2 || coder.decipher(rowIn, in, manager.key));
    }

    private void takeByManager(Manager manager) {
        if (manager.isAnswer(in)) {
            StringBuilder into = blankText();
            in.writeScope(into);
            manager.takeAnswer(in.id, into.toString());
        } else if (in.kind == INFORM) {
            takeNotice(manager);
            out.takeHead(in);
            out.takeScope(in);
            out.kind = RESPONSE;
            out.status = 0;
            out.index = 0;
            transmit(manager.key, manager.number, AGENT);
        } else if (in.kind != TRAP || !takeNotice(manager)) {
            manager.dropped++;
        }
    }

    /** A NOTICE is told to a MANAGER; returns whether it was not told to it yet. */
    private boolean takeNotice(Manager manager) {
        if (manager.wasTold(in.request, in.boots)) {
            return false;
        }
        StringBuilder into = blankText();
        into.append(in.boots).append(' ');
        in.writeScope(into);
        manager.notices.add(new Told(in.request, in.boots, into.toString()));
        return true;
    }

    // ---- the line

    public int rows() {
        return line.count;
    }

    public int ofRow(int k, int what) throws IndexOutOfBoundsException, IllegalArgumentException {
        needPlace(line.hasRow(k));
        needArgument(isWithin(what, 0, 4));
        Row row = line.rows[k];
        switch (what) {
            case 0: return row.from;
            case 1: return row.to;
            case 2: return row.length;
            case 3: return coder.readRow(row, in);
            default: return row.at;
        }
    }

    public String rowText(int k) throws IndexOutOfBoundsException {
        needPlace(line.hasRow(k));
        writeRow(line.rows[k]);
        return text.toString();
    }

    private void writeRow(Row row) {
        StringBuilder into = blankText();
        int fault = coder.readRow(row, in);
        if (fault == NONE) {
            in.writeTo(into);
        } else {
            into.append("fault ").append(fault);
        }
    }

    public int byteOf(int k, int place) throws IndexOutOfBoundsException {
        needPlace(line.hasRow(k) && line.rows[k].hasByte(place));
        return line.rows[k].bytes[place];
    }

    public int pass(int k) throws IndexOutOfBoundsException {
        needPlace(line.hasRow(k));
        come(k);
        return line.count;
    }

    public int passAll(int many) throws IllegalArgumentException {
        needArgument(isWithin(many, 1, 40));
        int passed = 0;
        for (int i = 0; i < many && line.count > 0; i++) {
            come(0);
            passed++;
        }
        return passed;
    }

    public int lose(int k) throws IndexOutOfBoundsException {
        needPlace(line.hasRow(k));
        line.remove(k);
        line.lost++;
        return line.count;
    }

    public int twice(int k) throws IndexOutOfBoundsException {
        needPlace(line.hasRow(k));
        return repeat(line.rows[k]);
    }

    /** Puts what once was under way behind the LINE's end again, without its being SENT. */
    private int repeat(Row row) {
        if (line.isFull() || row.length == 0) {
            return refuse();
        }
        rowOut.takeRow(row);
        rowOut.at = agent.now;
        line.append(rowOut);
        return line.count;
    }

    public int spoil(int k, int place, int with) throws IndexOutOfBoundsException, IllegalArgumentException {
        needPlace(line.hasRow(k) && line.rows[k].hasByte(place));
        needArgument(isWithin(with, 0, 255));
        int before = line.rows[k].bytes[place];
        line.rows[k].bytes[place] = with;
        return before;
    }

    public int record(int k, int slot) throws IndexOutOfBoundsException {
        needPlace(line.hasRow(k) && isWithin(slot, 0, RECORDS - 1));
        line.records[slot].takeRow(line.rows[k]);
        return line.records[slot].length;
    }

    public int replay(int slot) throws IndexOutOfBoundsException {
        needPlace(isWithin(slot, 0, RECORDS - 1));
        return repeat(line.records[slot]);
    }

    // ---- the bench

    public int lay(int a, int b, int c, int d, int e) throws IllegalArgumentException, IllegalStateException {
        needArgument(areBytes(a, b, c, d, e));
        needState(bench.length + countOf(a, b, c, d, e) <= MOST_BYTES);
        bench.add(a);
        bench.add(b);
        bench.add(c);
        bench.add(d);
        bench.add(e);
        return bench.length;
    }

    public int cut(int many) throws IllegalArgumentException {
        needArgument(isWithin(many, 1, MOST_BYTES));
        bench.length = Math.max(bench.length - many, 0);
        return bench.length;
    }

    public int fetch(int k) throws IndexOutOfBoundsException {
        needPlace(line.hasRow(k));
        bench.takeRow(line.rows[k]);
        return bench.length;
    }

    public int fault() {
        return coder.readRow(bench, in);
    }

    public String read() {
        writeRow(bench);
        return text.toString();
    }

    public int sum(int key) throws IllegalArgumentException {
        needArgument(isWithin(key, 0, GREATEST_KEY));
        boolean hasSum = coder.readRow(bench, in) == NONE && in.level > 0;
        return bench.sumBy(key, hasSum ? in.sumPlace : NONE);
    }

    public int cipher(int key, int boots, int salt) throws IllegalArgumentException {
        needArgument(isWithin(key, 0, GREATEST_KEY) && isWithin(boots, 0, 999) && isWithin(salt, 0, 255));
        Row.applyCipher(bench.bytes, 0, bench.length, Row.cipherStart(key, boots, salt));
        return bench.total();
    }

    public int inject(int manager) throws IndexOutOfBoundsException {
        needPlace(isManager(manager));
        bench.from = manager;
        bench.to = AGENT;
        return repeat(bench);
    }

    // ---- the whole

    public int house(int what) throws IllegalArgumentException {
        needArgument(isWithin(what, 0, 4));
        switch (what) {
            case 0: return line.sent;
            case 1: return line.lost;
            case 2: return line.came;
            case 3: return refused;
            default: return knocks;
        }
    }

    public int knock() {
        knocks++;
        return knocks;
    }

    public boolean isSound() {
        return areRowsSound() && areViewsSound() && areWalksSound()
                && agent.tree.areCountersSound() && areOpenOnesSound();
    }

    private boolean areRowsSound() {
        for (int k = 0; k < MOST_ROWS && line.hasRow(k); k++) {
            Row row = line.rows[k];
            if (coder.readRow(row, in) == NONE) {
                coder.encodeAgain(in, row, rowOut);
                if (!rowOut.hasSameBytes(row)) {
                    return false;
                }
            }
        }
        return true;
    }

    private boolean areViewsSound() {
        for (int i = 0; i < VIEWS * CONTEXTS * Tree.SLOTS; i++) {
            View view = agent.views[i % VIEWS];
            int context = i / VIEWS % CONTEXTS;
            int slot = i / (VIEWS * CONTEXTS);
            if (agent.tree.isThere(context, slot)) {
                Name name = agent.tree.at(context, slot).name;
                if (view.holds(name) != view.holdsBackward(name)) {
                    return false;
                }
            }
        }
        return true;
    }

    private boolean areWalksSound() {
        for (int i = 0; i < USERS * CONTEXTS; i++) {
            int context = i % CONTEXTS;
            View view = agent.viewOf(i / CONTEXTS, READ_VIEW + context * CONTEXT_STEP);
            if (view != null && !agent.tree.isWalkedByNext(context, view)) {
                return false;
            }
        }
        return true;
    }

    private boolean areOpenOnesSound() {
        for (int i = 0; i < MANAGERS; i++) {
            if (!managers[i].areDraftsSound()) {
                return false;
            }
        }
        return agent.areInformsSound();
    }

    public long digest() {
        long d = mixAgent(7684);
        d = mixUsers(d);
        d = mixViewsAndTargets(d);
        d = mixManagers(d);
        draft.writeScope(blankText());
        d = mixText(d);
        d = mixRows(d);
        for (int what = 0; what <= 4; what++) {
            d = mix(d, house(what));
        }
        return mix(d, isSound() ? 1 : 0);
    }

    private static long mix(long d, int number) {
        return d * 31 + number;
    }

    private static long mixString(long d, String of) {
        long mixed = d;
        for (int i = 0; i < of.length(); i++) {
            mixed = mix(mixed, of.charAt(i));
        }
        return mixed;
    }

    private long mixText(long d) {
        long mixed = d;
        for (int i = 0; i < text.length(); i++) {
            mixed = mix(mixed, text.charAt(i));
        }
        return mixed;
    }

    private long mixAgent(long d) {
        long mixed = d;
        for (int what = 0; what <= 9; what++) {
            mixed = mix(mixed, ofAgent(what));
        }
        StringBuilder into = blankText();
        for (int i = 0; i < CONTEXTS * Tree.SLOTS; i++) {
            if (agent.tree.isThere(i / Tree.SLOTS, i % Tree.SLOTS)) {
                Binding object = agent.tree.at(i / Tree.SLOTS, i % Tree.SLOTS);
                object.name.writeTo(into);
                object.writeValue(into);
            }
        }
        inHand.writeTo(into);
        return mixText(mixed);
    }

    private long mixUsers(long d) {
        long mixed = d;
        for (int user = 0; user < USERS; user++) {
            for (int what = 0; what < USER_NUMBERS; what++) {
                mixed = mix(mixed, agent.userNumber(user, what));
            }
            for (int context = 0; context < CONTEXTS; context++) {
                writeWalk(user, context);
                mixed = mixText(mixed);
            }
        }
        return mixed;
    }

    private long mixViewsAndTargets(long d) {
        StringBuilder into = blankText();
        for (int view = 0; view < VIEWS; view++) {
            agent.views[view].writeTo(into);
        }
        long mixed = mixText(d);
        for (int target = 0; target < TARGETS; target++) {
            for (int what = 0; what < TARGET_NUMBERS; what++) {
                mixed = mix(mixed, agent.targetNumber(target, what));
            }
        }
        return mixed;
    }

    private long mixManagers(long d) {
        long mixed = d;
        for (int manager = 0; manager < MANAGERS; manager++) {
            for (int what = 0; what <= 11; what++) {
                mixed = mix(mixed, ofManager(manager, what));
            }
            mixed = mixString(mixed, managers[manager].answerText);
            ArrayList<Told> notices = managers[manager].notices;
            for (int k = 0; k < notices.size(); k++) {
                mixed = mixString(mixed, notices.get(k).text);
            }
        }
        return mixed;
    }

    private long mixRows(long d) {
        long mixed = d;
        for (int k = 0; k < MOST_ROWS && line.hasRow(k); k++) {
            Row row = line.rows[k];
            for (int what = 0; what <= 4; what++) {
                mixed = mix(mixed, ofRow(k, what));
            }
            for (int place = 0; place < MOST_BYTES && row.hasByte(place); place++) {
                mixed = mix(mixed, row.bytes[place]);
            }
        }
        mixed = mix(mixed, coder.readRow(bench, in));
        writeRow(bench);
        return mixText(mixed);
    }

    // ---- the parts

    private static final class Name {
        final int[] numbers = new int[MOST_NUMBERS];
        int count;

        void take(Name other) {
            System.arraycopy(other.numbers, 0, numbers, 0, MOST_NUMBERS);
            count = other.count;
        }

        void add(int number) {
            if (number != NONE && count >= 0 && count < MOST_NUMBERS) {
                numbers[count] = number;
                count++;
            }
        }

        void become(int a, int b, int c, int d) {
            count = 0;
            grow(a, b, c, d);
        }

        void grow(int a, int b, int c, int d) {
            add(a);
            add(b);
            add(c);
            add(d);
        }

        int numberAt(int place) {
            return place >= 0 && place < count && place < MOST_NUMBERS ? numbers[place] : NONE;
        }

        int compareWith(Name other) {
            for (int i = 0; i < MOST_NUMBERS; i++) {
                // Behind a NAME's end stands NONE, below each number, so the shorter one is ahead.
                int one = i < count ? numbers[i] : NONE;
                int two = i < other.count ? other.numbers[i] : NONE;
                if (one != two) {
                    return one < two ? -1 : 1;
                }
            }
            return 0;
        }

        boolean beginsWith(Name other) {
            for (int i = 0; i < MOST_NUMBERS && i < other.count; i++) {
                if (i >= count || numbers[i] != other.numbers[i]) {
                    return false;
                }
            }
            return true;
        }

        void writeTo(StringBuilder into) {
            writeNumbers(numbers, count, into);
        }

        static void writeNumbers(int[] numbers, int count, StringBuilder into) {
            for (int i = 0; i < count && i < numbers.length; i++) {
                if (i > 0) {
                    into.append('.');
                }
                into.append(numbers[i]);
            }
        }
    }

    /** A NAME and a VALUE; an OBJECT of the tree, too. */
    private static final class Binding {
        final Name name = new Name();
        int tag = TAG_NULL;
        int number;
        // The bytes of OCTETS, or the numbers of a NAME as a VALUE.
        final int[] parts = new int[MOST_OCTETS];
        int count;

        void add(int part) {
            if (part != NONE && count >= 0 && count < MOST_OCTETS) {
                parts[count] = part;
                count++;
            }
        }

        void setNumber(int newTag, int newNumber) {
            tag = newTag;
            number = newNumber;
            count = 0;
        }

        void setName(Name value) {
            tag = TAG_NAME;
            System.arraycopy(value.numbers, 0, parts, 0, MOST_NUMBERS);
            count = value.count;
        }

        void takeValue(Binding other) {
            tag = other.tag;
            number = other.number;
            System.arraycopy(other.parts, 0, parts, 0, MOST_OCTETS);
            count = other.count;
        }

        void take(Binding other) {
            name.take(other.name);
            takeValue(other);
        }

        void writeValue(StringBuilder into) {
            switch (tag) {
                case TAG_INTEGER: into.append(number); break;
                case TAG_COUNTER: into.append('c').append(number); break;
                case TAG_TICKS: into.append('t').append(number); break;
                case TAG_OCTETS: writeOctets(into); break;
                case TAG_NAME: Name.writeNumbers(parts, count, into); break;
                case TAG_NO_OBJECT: into.append("no object"); break;
                case TAG_NO_INSTANCE: into.append("no instance"); break;
                case TAG_END: into.append("end"); break;
                default: into.append("null"); break;
            }
        }

        private void writeOctets(StringBuilder into) {
            into.append('\'');
            for (int i = 0; i < count && i < MOST_OCTETS; i++) {
                boolean isPlain = parts[i] >= 32 && parts[i] <= 126 && parts[i] != 39;
                into.append(isPlain ? (char) parts[i] : '?');
            }
            into.append('\'');
        }
    }

    /** What a row tells. */
    private static final class Message {
        int id;
        int level;
        int engine;
        int boots;
        int time;
        int user;
        int sum;
        int salt;
        int context;
        int kind;
        int request;
        int status;
        int index;
        int count;
        final Binding[] bindings = new Binding[MOST_BINDINGS];
        // Where in its row the bytes of the SUM and of the ciphered SCOPE stand.
        int sumPlace = NONE;
        int cipherPlace;
        int cipherLength;

        Message() {
            for (int i = 0; i < MOST_BINDINGS; i++) {
                bindings[i] = new Binding();
            }
        }

        void takeHead(Message other) {
            id = other.id;
            level = other.level;
            engine = other.engine;
            boots = other.boots;
            time = other.time;
            user = other.user;
        }

        void beginScope(int newKind, int newContext, int newRequest) {
            kind = newKind;
            context = newContext;
            request = newRequest;
            status = 0;
            index = 0;
            count = 0;
        }

        void takeScope(Message other) {
            context = other.context;
            kind = other.kind;
            request = other.request;
            status = other.status;
            index = other.index;
            takeBindings(other);
        }

        void takeBindings(Message other) {
            count = other.count;
            for (int i = 0; i < count && i < MOST_BINDINGS; i++) {
                bindings[i].take(other.bindings[i]);
            }
        }

        /** The next BINDING, with a NAME; the last one is given again where there is no place more. */
        Binding add(Name name) {
            int place = isWithin(count, 0, MOST_BINDINGS - 1) ? count : MOST_BINDINGS - 1;
            bindings[place].name.take(name);
            count = place + 1;
            return bindings[place];
        }

        void writeScope(StringBuilder into) {
            into.append(context).append(' ').append(wordOf(kind)).append(' ').append(request);
            into.append(' ').append(status).append(' ').append(index);
            for (int i = 0; i < count && i < MOST_BINDINGS; i++) {
                into.append(", ");
                bindings[i].name.writeTo(into);
                into.append('=');
                bindings[i].writeValue(into);
            }
        }

        void writeTo(StringBuilder into) {
            into.append(id).append(' ').append(level).append(' ').append(engine).append(' ').append(boots);
            into.append(' ').append(time).append(' ').append(user).append(' ').append(level == 0 ? NONE : sum);
            into.append(' ').append(salt).append(": ");
            if (level == 2) {
                into.append(cipherLength);
            } else {
                writeScope(into);
            }
        }

        private static String wordOf(int kind) {
            switch (kind) {
                case GET: return "get";
                case NEXT: return "next";
                case RESPONSE: return "response";
                case SET: return "set";
                case BULK: return "bulk";
                case TRAP: return "trap";
                case INFORM: return "inform";
                default: return "report";
            }
        }
    }

    private static final class Row {
        final int[] bytes = new int[MOST_BYTES];
        int length;
        int from;
        int to;
        int at;

        boolean hasByte(int place) {
            return place >= 0 && place < length && place < MOST_BYTES;
        }

        void add(int b) {
            if (b != NONE && length >= 0 && length < MOST_BYTES) {
                bytes[length] = b;
                length++;
            }
        }

        void takeRow(Row other) {
            System.arraycopy(other.bytes, 0, bytes, 0, MOST_BYTES);
            length = other.length;
            from = other.from;
            to = other.to;
            at = other.at;
        }

        /** Takes bytes of others; none, where they are not all there or more than a row has. */
        void takeBytes(int[] others, int first, int many) {
            length = 0;
            if (isWithin(many, 0, MOST_BYTES) && isWithin(first, 0, others.length - many)) {
                System.arraycopy(others, first, bytes, 0, many);
                length = many;
            }
        }

        boolean hasSameBytes(Row other) {
            if (length != other.length) {
                return false;
            }
            for (int i = 0; i < length && i < MOST_BYTES; i++) {
                if (bytes[i] != other.bytes[i]) {
                    return false;
                }
            }
            return true;
        }

        int total() {
            int total = 0;
            for (int i = 0; i < length && i < MOST_BYTES; i++) {
                total += bytes[i];
            }
            return total;
        }

        /** The SUM, the two bytes from a place on taken as 0 (none, by NONE). */
        int sumBy(int key, int sumPlace) {
            int h = key;
            for (int i = 0; i < length && i < MOST_BYTES; i++) {
                boolean isOfSum = sumPlace != NONE && (i == sumPlace || i == sumPlace + 1);
                h = addToSum(h, isOfSum ? 0 : bytes[i]);
            }
            return addToSum(addToSum(h, key / 256), key % 256);
        }

        private static int addToSum(int h, int b) {
            return (h * 257 + b + 1) % 65521;
        }

        static int cipherStart(int key, int boots, int salt) {
            return key * 7 + boots * 11 + salt * 13 + 5 & 65535;
        }

        static void applyCipher(int[] bytes, int first, int end, int start) {
            int x = start;
            for (int i = Math.max(first, 0); i < end && i < bytes.length; i++) {
                x = x * 1103 + 12345 & 65535;
                bytes[i] ^= x >> 8;
            }
        }
    }

    /** Makes rows of MESSAGES, and READS them. */
    private static final class Coder {
        // More than the longest MESSAGE of eight BINDINGS can need.
        private static final int BUFFER = 640;

        private final Row plain = new Row();
        private int[] bytes = plain.bytes;
        private int place;
        private int fault = NONE;
        // A MESSAGE is written from its end on, so that each LENGTH is known when it is due.
        private final int[] buffer = new int[BUFFER];
        private int start = BUFFER;
        private int sumStart;

        /** READS a row; returns its FAULT, NONE without. */
        int readRow(Row row, Message into) {
            begin(row);
            int end = open(TAG_LIST, row.length);
            readHead(into, end);
            if (into.level == 2) {
                int close = open(TAG_OCTETS, end);
                into.cipherPlace = place;
                into.cipherLength = close - place;
                skipTo(close);
            } else {
                readScope(into, end);
            }
            needEnd(end);
            needEnd(row.length);
            return fault;
        }

        /** Deciphers and READS the SCOPE of a row; returns whether it has no FAULT. */
        boolean decipher(Row row, Message into, int key) {
            plain.takeBytes(row.bytes, into.cipherPlace, into.cipherLength);
            Row.applyCipher(plain.bytes, 0, plain.length, Row.cipherStart(key, into.boots, into.salt));
            begin(plain);
            readScope(into, plain.length);
            needEnd(plain.length);
            return fault == NONE;
        }

        private void begin(Row row) {
            bytes = row.bytes;
            place = 0;
            fault = NONE;
        }

        private void readHead(Message into, int end) {
            integer(end, 3, 3);
            into.id = integer(end, LEAST_INTEGER, GREATEST_INTEGER);
            into.level = integer(end, 0, 2);
            into.engine = integer(end, LEAST_INTEGER, GREATEST_INTEGER);
            into.boots = integer(end, LEAST_INTEGER, GREATEST_INTEGER);
            into.time = integer(end, LEAST_INTEGER, GREATEST_INTEGER);
            into.user = integer(end, LEAST_INTEGER, GREATEST_INTEGER);
            int begin = place;
            int close = open(TAG_OCTETS, end);
            into.sum = 0;
            into.sumPlace = into.level == 0 ? NONE : place;
            if (close - place != (into.level == 0 ? 0 : 2)) {
                fail(begin);
            }
            if (fault == NONE && into.level > 0 && place >= 0 && place + 1 < bytes.length) {
                into.sum = bytes[place] * 256 + bytes[place + 1];
            }
            skipTo(close);
            into.salt = integer(end, 0, into.level == 2 ? 255 : 0);
        }

        private void readScope(Message into, int limit) {
            int scopeEnd = open(TAG_LIST, limit);
            into.context = integer(scopeEnd, LEAST_INTEGER, GREATEST_INTEGER);
            int tag = tagAt(scopeEnd);
            into.kind = tag >= TAG_PDU && tag <= TAG_PDU + REPORT ? tag - TAG_PDU : GET;
            int pduEnd = open(TAG_PDU + into.kind, scopeEnd);
            into.request = integer(pduEnd, LEAST_INTEGER, GREATEST_INTEGER);
            into.status = integer(pduEnd, LEAST_INTEGER, GREATEST_INTEGER);
            into.index = integer(pduEnd, LEAST_INTEGER, GREATEST_INTEGER);
            int listEnd = open(TAG_LIST, pduEnd);
            into.count = 0;
            for (int i = 0; i < MOST_BINDINGS && fault == NONE && place < listEnd; i++) {
                Binding binding = into.bindings[i];
                int bindingEnd = open(TAG_LIST, listEnd);
                int begin = place;
                int nameEnd = open(TAG_NAME, bindingEnd);
                binding.name.count = numbersTo(nameEnd, begin, binding.name.numbers);
                readValue(binding, bindingEnd);
                needEnd(bindingEnd);
                into.count++;
            }
            needEnd(listEnd);
            needEnd(pduEnd);
            needEnd(scopeEnd);
        }

        private void readValue(Binding into, int limit) {
            int begin = place;
            int tag = tagAt(limit);
            into.setNumber(tag, 0);
            int end = open(tag, limit);
            switch (tag) {
                case TAG_INTEGER: into.number = numberTo(end, begin, LEAST_INTEGER, GREATEST_INTEGER); break;
                case TAG_COUNTER: into.number = numberTo(end, begin, 0, COUNTER_END - 1); break;
                case TAG_TICKS: into.number = numberTo(end, begin, 0, GREATEST_INTEGER); break;
                case TAG_NAME: into.count = numbersTo(end, begin, into.parts); break;
                case TAG_OCTETS: octetsTo(end, begin, into); break;
                case TAG_NULL:
                case TAG_NO_OBJECT:
                case TAG_NO_INSTANCE:
                case TAG_END:
                    if (place != end) {
                        fail(begin);
                    }
                    break;
                default: fail(begin); break;
            }
        }

        private int tagAt(int limit) {
            return place >= 0 && place < limit && place < bytes.length ? bytes[place] : NONE;
        }

        /** The first FAULT is the one that counts. */
        private void fail(int where) {
            if (fault == NONE) {
                fault = where;
            }
        }

        private void needEnd(int end) {
            if (place != end) {
                fail(place);
            }
        }

        private void skipTo(int end) {
            if (fault == NONE) {
                place = end;
            }
        }

        /** Goes into a part, up to its CONTENT; returns where it ends (behind a FAULT nothing moves any more). */
        private int open(int tag, int limit) {
            if (fault != NONE) {
                return place;
            }
            int end = Math.min(limit, bytes.length);
            int content = place + 2;
            if (place < 0 || content > end || bytes[place] != tag) {
                fault = place;
                return place;
            }
            int length = bytes[place + 1];
            boolean isWritten = length < 128;
            if (length == 129 && content < end) {
                length = bytes[content];
                isWritten = length >= 128;
                content++;
            }
            if (!isWritten || length > end - content) {
                fault = place;
                return place;
            }
            place = content;
            return content + length;
        }

        private int integer(int limit, int least, int greatest) {
            int begin = place;
            int end = open(TAG_INTEGER, limit);
            return numberTo(end, begin, least, greatest);
        }

        /** READS the CONTENT of a number, of a part that began at a place. */
        private int numberTo(int end, int begin, int least, int greatest) {
            int many = end - place;
            if (fault != NONE) {
                return 0;
            }
            if (many < 1 || many > 4 || place < 0 || end > bytes.length) {
                fault = begin;
                return 0;
            }
            int value = bytes[place] < 128 ? 0 : -1;
            for (int i = place; i < end; i++) {
                value = value << 8 | bytes[i];
            }
            // Its first byte is spare, if it tells nothing but the sign that the next one tells as well.
            boolean isSpare = many > 1 && value >> 8 * many - 9 == (value < 0 ? -1 : 0);
            if (isSpare || value < least || value > greatest) {
                fault = begin;
                return 0;
            }
            place = end;
            return value;
        }

        /** READS the CONTENT of a NAME, of a part that began at a place; returns how many numbers it has. */
        private int numbersTo(int end, int begin, int[] into) {
            int count = 0;
            boolean isRight = fault == NONE && end > place && place >= 0 && end <= bytes.length;
            for (int i = 0; i < MOST_BYTES && isRight && place < end; i++) {
                int number = bytes[place];
                place++;
                if (number >= 128) {
                    int low = place < end ? bytes[place] : MOST_BYTES;
                    number = (number - 128) * 128 + low;
                    isRight = low < 128 && number >= 128 && number <= GREATEST_NUMBER;
                    place++;
                }
                isRight = isRight && count < MOST_NUMBERS && count < into.length;
                if (isRight) {
                    into[count] = number;
                    count++;
                }
            }
            if (!isRight && fault == NONE) {
                fault = begin;
            }
            return count;
        }

        private void octetsTo(int end, int begin, Binding into) {
            if (end - place > MOST_OCTETS && fault == NONE) {
                fault = begin;
            }
            for (int i = place; i >= 0 && i < end && i < bytes.length && fault == NONE; i++) {
                into.add(bytes[i]);
            }
            if (fault == NONE) {
                place = end;
            }
        }

        /** Makes the row of a MESSAGE; returns how many bytes it has (the row gets none, if there are more than 255). */
        int encode(Message of, int key, Row into) {
            start = BUFFER;
            putScope(of);
            if (of.level == 2) {
                Row.applyCipher(buffer, start, BUFFER, Row.cipherStart(key, of.boots, of.salt));
                putHead(TAG_OCTETS, BUFFER);
            }
            of.sum = 0;
            putFront(of);
            int length = BUFFER - start;
            into.takeBytes(buffer, start, length);
            int sumPlace = sumStart - start;
            if (of.level > 0 && into.hasByte(sumPlace) && into.hasByte(sumPlace + 1)) {
                of.sum = into.sumBy(key, sumPlace);
                into.bytes[sumPlace] = of.sum / 256;
                into.bytes[sumPlace + 1] = of.sum % 256;
            }
            return length;
        }

        /** Makes the row of a MESSAGE that was READ of one, its SUM and its ciphered SCOPE as they stand there. */
        void encodeAgain(Message of, Row from, Row into) {
            start = BUFFER;
            if (of.level == 2) {
                for (int i = of.cipherPlace + of.cipherLength - 1; i >= of.cipherPlace && from.hasByte(i) && start > 0; i--) {
                    start--;
                    buffer[start] = from.bytes[i];
                }
                putHead(TAG_OCTETS, BUFFER);
            } else {
                putScope(of);
            }
            putFront(of);
            into.takeBytes(buffer, start, BUFFER - start);
        }

        private void putFront(Message of) {
            putNumber(TAG_INTEGER, of.salt);
            int end = start;
            if (of.level > 0 && start > 1) {
                start -= 2;
                buffer[start] = of.sum >> 8 & 255;
                buffer[start + 1] = of.sum & 255;
            }
            sumStart = start;
            putHead(TAG_OCTETS, end);
            putNumber(TAG_INTEGER, of.user);
            putNumber(TAG_INTEGER, of.time);
            putNumber(TAG_INTEGER, of.boots);
            putNumber(TAG_INTEGER, of.engine);
            putNumber(TAG_INTEGER, of.level);
            putNumber(TAG_INTEGER, of.id);
            putNumber(TAG_INTEGER, 3);
            putHead(TAG_LIST, BUFFER);
        }

        private void putScope(Message of) {
            for (int i = Math.min(of.count, MOST_BINDINGS) - 1; i >= 0; i--) {
                Binding binding = of.bindings[i];
                int end = start;
                if (binding.tag == TAG_INTEGER || binding.tag == TAG_COUNTER || binding.tag == TAG_TICKS) {
                    putNumber(binding.tag, binding.number);
                } else {
                    putParts(binding.parts, binding.count, binding.tag == TAG_NAME);
                    putHead(binding.tag, end);
                }
                int nameEnd = start;
                putParts(binding.name.numbers, binding.name.count, true);
                putHead(TAG_NAME, nameEnd);
                putHead(TAG_LIST, end);
            }
            putHead(TAG_LIST, BUFFER);
            putNumber(TAG_INTEGER, of.index);
            putNumber(TAG_INTEGER, of.status);
            putNumber(TAG_INTEGER, of.request);
            putHead(TAG_PDU + of.kind, BUFFER);
            putNumber(TAG_INTEGER, of.context);
            putHead(TAG_LIST, BUFFER);
        }

        /** Puts the TAG and the LENGTH ahead of a CONTENT that ends at a place. */
        private void putHead(int tag, int end) {
            if (start < 3) {
                return;
            }
            int length = end - start;
            start--;
            buffer[start] = length & 255;
            if (length >= 128) {
                start--;
                buffer[start] = 129;
            }
            start--;
            buffer[start] = tag;
        }

        private void putNumber(int tag, int value) {
            if (start < 6) {
                return;
            }
            int end = start;
            int rest = value;
            for (int i = 0; i < 4; i++) {
                start--;
                buffer[start] = rest & 255;
                boolean isAll = rest >= -128 && rest <= 127;
                rest >>= 8;
                if (isAll) {
                    break;
                }
            }
            int length = end - start;
            start -= 2;
            buffer[start] = tag;
            buffer[start + 1] = length;
        }

        /** Puts the bytes of OCTETS, or the numbers of a NAME. */
        private void putParts(int[] parts, int count, boolean isName) {
            for (int i = Math.min(count, parts.length) - 1; i >= 0 && start > 1; i--) {
                boolean isLong = isName && parts[i] >= 128;
                start--;
                buffer[start] = isLong ? parts[i] % 128 : parts[i];
                if (isLong) {
                    start--;
                    buffer[start] = 128 + parts[i] / 128;
                }
            }
        }
    }

    private static final class Line {
        final Row[] rows = new Row[MOST_ROWS];
        // A recorded row without bytes is none: each row under way has one.
        final Row[] records = new Row[RECORDS];
        // How many rows of the LEVEL 2 were SENT by each side.
        final int[] ciphered = new int[MANAGERS + 1];
        int count;
        int sent;
        int lost;
        int came;

        Line() {
            for (int i = 0; i < MOST_ROWS; i++) {
                rows[i] = new Row();
            }
            for (int i = 0; i < RECORDS; i++) {
                records[i] = new Row();
            }
        }

        boolean hasRow(int k) {
            return k >= 0 && k < count && k < MOST_ROWS;
        }

        boolean isFull() {
            return count >= MOST_ROWS;
        }

        int saltOf(int side, int level) {
            return level == 2 && isWithin(side, 0, MANAGERS) ? ciphered[side] & 255 : 0;
        }

        void countSent(int side, int level) {
            sent++;
            if (level == 2 && isWithin(side, 0, MANAGERS)) {
                ciphered[side]++;
            }
        }

        void append(Row row) {
            if (count >= 0 && count < MOST_ROWS) {
                rows[count].takeRow(row);
                count++;
            }
        }

        void remove(int k) {
            if (!hasRow(k)) {
                return;
            }
            Row gone = rows[k];
            for (int i = k + 1; i < count && i < MOST_ROWS; i++) {
                rows[i - 1] = rows[i];
            }
            count = Math.min(count, MOST_ROWS) - 1;
            rows[count] = gone;
        }
    }

    /** FAMILIES, by ORDER of their NAMES, those of the same by rising MASKS. */
    private static final class View {
        final Name[] names = new Name[MOST_FAMILIES];
        final int[] masks = new int[MOST_FAMILIES];
        final boolean[] areIn = new boolean[MOST_FAMILIES];
        int count;

        View() {
            for (int i = 0; i < MOST_FAMILIES; i++) {
                names[i] = new Name();
            }
        }

        int find(Name name, int mask) {
            for (int i = 0; i < count && i < MOST_FAMILIES; i++) {
                if (masks[i] == mask && names[i].compareWith(name) == 0) {
                    return i;
                }
            }
            return NONE;
        }

        void put(Name name, int mask, boolean isIn) {
            int at = find(name, mask);
            if (at == NONE) {
                at = makeRoom(name, mask);
            }
            if (at != NONE) {
                names[at].take(name);
                masks[at] = mask;
                areIn[at] = isIn;
            }
        }

        /** Moves the FAMILIES behind a new one on; returns its place, NONE if there is none. */
        private int makeRoom(Name name, int mask) {
            if (count < 0 || count >= MOST_FAMILIES) {
                return NONE;
            }
            Name spare = names[count];
            int at = count;
            for (int i = count - 1; i >= 0; i--) {
                int order = names[i].compareWith(name);
                if (order < 0 || order == 0 && masks[i] < mask) {
                    break;
                }
                names[i + 1] = names[i];
                masks[i + 1] = masks[i];
                areIn[i + 1] = areIn[i];
                at = i;
            }
            names[at] = spare;
            count++;
            return at;
        }

        void remove(int place) {
            if (place < 0 || place >= count || place >= MOST_FAMILIES) {
                return;
            }
            Name spare = names[place];
            for (int i = place + 1; i < count && i < MOST_FAMILIES; i++) {
                names[i - 1] = names[i];
                masks[i - 1] = masks[i];
                areIn[i - 1] = areIn[i];
            }
            count--;
            names[count] = spare;
        }

        boolean holds(Name name) {
            int best = NONE;
            for (int i = 0; i < count && i < MOST_FAMILIES; i++) {
                if (isOf(name, i) && isAbove(i, best)) {
                    best = i;
                }
            }
            return best != NONE && areIn[best];
        }

        boolean holdsBackward(Name name) {
            int best = NONE;
            for (int i = Math.min(count, MOST_FAMILIES) - 1; i >= 0; i--) {
                if (isOf(name, i) && isAbove(i, best)) {
                    best = i;
                }
            }
            return best != NONE && areIn[best];
        }

        private boolean isOf(Name name, int family) {
            Name of = names[family];
            for (int i = 0; i < of.count && i < MOST_NUMBERS; i++) {
                boolean isAny = (masks[family] >> i & 1) == 1;
                if (i >= name.count || !isAny && name.numbers[i] != of.numbers[i]) {
                    return false;
                }
            }
            return true;
        }

        private boolean isAbove(int family, int best) {
            if (best == NONE || names[family].count != names[best].count) {
                return best == NONE || names[family].count > names[best].count;
            }
            // Of as many numbers the one behind has the greater NAME or MASK.
            return family > best;
        }

        void writeTo(StringBuilder into) {
            for (int i = 0; i < count && i < MOST_FAMILIES; i++) {
                if (i > 0) {
                    into.append(", ");
                }
                names[i].writeTo(into);
                into.append('/').append(masks[i]).append(areIn[i] ? '+' : '-');
            }
        }
    }

    /** The OBJECTS of both CONTEXTS, each at its SLOT; the SLOTS are in the ORDER of the NAMES. */
    private static final class Tree {
        static final int SLOTS = 67;
        static final int SLOT_TIME = 2;
        static final int FIRST_PORT = 3;
        static final int FIRST_NOTE = 23;
        static final int FIRST_COUNTER = 59;

        private final Binding[] objects = new Binding[CONTEXTS * SLOTS];
        private final boolean[] notes = new boolean[CONTEXTS * NOTES];
        private final Name lowest = new Name();

        Tree() {
            lowest.add(0);
            for (int i = 0; i < CONTEXTS * SLOTS; i++) {
                Binding object = new Binding();
                nameSlot(i % SLOTS, object.name);
                object.setNumber(tagOf(object.name.numberAt(0), object.name.numberAt(1)), firstNumber(object.name));
                objects[i] = object;
            }
        }

        private static int firstNumber(Name name) {
            int a = name.numberAt(0);
            int b = name.numberAt(1);
            if (a == 2 && b == 1) {
                return name.numberAt(2);
            }
            return (a == 2 || a == 3) && b == 3 ? 1 : 0;
        }

        static int slotOfPort(int column, int port) {
            return FIRST_PORT + (column - 1) * PORTS + port - 1;
        }

        static int slotOfCounter(int which) {
            return FIRST_COUNTER + which - 1;
        }

        static int noteOf(int i, int j) {
            return (i - 1) * 4 + j - 1;
        }

        private static void nameSlot(int slot, Name into) {
            if (slot < FIRST_PORT) {
                into.become(1, slot + 1, 0, NONE);
            } else if (slot < FIRST_NOTE) {
                int q = slot - FIRST_PORT;
                into.become(2, q / PORTS + 1, q % PORTS + 1, NONE);
            } else if (slot < FIRST_COUNTER) {
                int q = slot - FIRST_NOTE;
                into.become(3, q / NOTES + 1, q % NOTES / 4 + 1, q % 4 + 1);
            } else {
                into.become(4, slot - FIRST_COUNTER + 1, 0, NONE);
            }
        }

        private static boolean isColumn(int context, int a, int b) {
            switch (a) {
                case 1: return isWithin(b, 1, context == 0 ? 3 : 2);
                case 2: return context == 0 && isWithin(b, 1, 5);
                case 3: return isWithin(b, 1, 3);
                case 4: return context == 0 && isWithin(b, 1, 8);
                default: return false;
            }
        }

        private static boolean canBeSet(int context, int a, int b) {
            switch (a) {
                case 1: return isWithin(b, 1, 2);
                case 2: return context == 0 && isWithin(b, 2, 3);
                case 3: return isWithin(b, 1, 3);
                default: return false;
            }
        }

        private static int tagOf(int a, int b) {
            if (a == 4 || a == 2 && b > 3) {
                return TAG_COUNTER;
            }
            if (a == 1 && b == 3) {
                return TAG_TICKS;
            }
            boolean isText = a == 2 ? b == 2 : b == 1;
            return isText ? TAG_OCTETS : TAG_INTEGER;
        }

        private static boolean isLet(int a, int b, int number) {
            if (a == 1) {
                return isWithin(number, 0, 9);
            }
            if (a == 2) {
                return number == 1 || number == 2;
            }
            return b != 3 || number == 1 || number == 2 || number == NOTE_COMES || number == NOTE_GOES;
        }

        /** The SLOT of a NAME that IS ONE of a COLUMN, otherwise NONE. */
        private static int slotOf(int context, Name name) {
            int a = name.numberAt(0);
            int b = name.numberAt(1);
            int c = name.numberAt(2);
            if (!isColumn(context, a, b) || name.count != (a == 3 ? 4 : 3)) {
                return NONE;
            }
            switch (a) {
                case 1: return c == 0 ? b - 1 : NONE;
                case 2: return isWithin(c, 1, PORTS) ? slotOfPort(b, c) : NONE;
                case 3:
                    int d = name.numberAt(3);
                    boolean isNote = isWithin(c, 1, 3) && isWithin(d, 1, 4);
                    return isNote ? FIRST_NOTE + (b - 1) * NOTES + noteOf(c, d) : NONE;
                default: return c == 0 ? slotOfCounter(b) : NONE;
            }
        }

        private static boolean isOfNote(int slot) {
            return slot >= FIRST_NOTE && slot < FIRST_COUNTER;
        }

        /** The place of the NOTE that an OBJECT of it belongs to. */
        private static int placeOfNote(int context, int slot) {
            return context * NOTES + (slot - FIRST_NOTE) % NOTES;
        }

        boolean isThere(int context, int slot) {
            if (!isWithin(context, 0, CONTEXTS - 1) || !isWithin(slot, 0, SLOTS - 1)) {
                return false;
            }
            if (isOfNote(slot)) {
                return notes[placeOfNote(context, slot)];
            }
            return context == 0 || slot < SLOT_TIME;
        }

        Binding at(int context, int slot) {
            boolean isOne = isWithin(context, 0, CONTEXTS - 1) && isWithin(slot, 0, SLOTS - 1);
            return objects[isOne ? context * SLOTS + slot : 0];
        }

        /** The SLOT of the OBJECT of a NAME, NONE if it is not there. */
        int find(int context, Name name) {
            int slot = slotOf(context, name);
            return isThere(context, slot) ? slot : NONE;
        }

        int sizeOf(int context) {
            int size = 0;
            for (int slot = 0; slot < SLOTS; slot++) {
                size += isThere(context, slot) ? 1 : 0;
            }
            return size;
        }

        int time() {
            return at(0, SLOT_TIME).number;
        }

        void setTime(int time) {
            at(0, SLOT_TIME).number = time;
        }

        /** A COUNTER goes on; returns it then. */
        int count(int slot, int many) {
            Binding counter = at(0, slot);
            counter.number = (counter.number + many) % COUNTER_END;
            return counter.number;
        }

        /** A NOTE comes or goes; returns whether it was otherwise. */
        boolean setNote(int context, int note, boolean isThere) {
            if (!isWithin(context, 0, CONTEXTS - 1) || !isWithin(note, 0, NOTES - 1)
                    || notes[context * NOTES + note] == isThere) {
                return false;
            }
            notes[context * NOTES + note] = isThere;
            at(context, FIRST_NOTE + note).count = 0;
            at(context, FIRST_NOTE + NOTES + note).number = 0;
            at(context, FIRST_NOTE + 2 * NOTES + note).number = 1;
            return true;
        }

        void writeObject(Message into, int slot) {
            Binding object = at(0, slot);
            into.add(object.name).takeValue(object);
        }

        /** The BINDINGS of a NOTICE, as things stood when it was SENT first. */
        void writeNotice(Message into, Notice notice) {
            into.add(at(0, SLOT_TIME).name).setNumber(TAG_TICKS, notice.time);
            if (notice.port > 0) {
                into.add(at(0, slotOfPort(1, notice.port)).name).setNumber(TAG_INTEGER, notice.port);
                into.add(at(0, slotOfPort(3, notice.port)).name).setNumber(TAG_INTEGER, notice.state);
            }
        }

        /** The first SLOT of an OBJECT behind a NAME that a VIEW has, NONE without. */
        private int slotBehind(int context, Name name, View view) {
            int first = 0;
            int end = SLOTS;
            // No SLOT ahead of the first is behind the NAME, each from the end on is.
            for (int i = 0; i < SLOTS && first < end; i++) {
                int middle = (first + end) / 2;
                if (objects[middle].name.compareWith(name) > 0) {
                    end = middle;
                } else {
                    first = middle + 1;
                }
            }
            for (int slot = first; slot < SLOTS; slot++) {
                if (isThere(context, slot) && view.holds(at(context, slot).name)) {
                    return slot;
                }
            }
            return NONE;
        }

        /** Adds what NEXT tells of a NAME; returns whether it is an OBJECT. */
        private boolean addNext(int context, Name name, View view, Message into) {
            int slot = slotBehind(context, name, view);
            if (slot == NONE) {
                into.add(name).setNumber(TAG_END, 0);
                return false;
            }
            Binding object = at(context, slot);
            into.add(object.name).takeValue(object);
            return true;
        }

        void answerGet(Message of, View view, Message into) {
            for (int i = 0; i < of.count && i < MOST_BINDINGS; i++) {
                Name name = of.bindings[i].name;
                Binding answer = into.add(name);
                int slot = find(of.context, name);
                if (!view.holds(name) || !isColumn(of.context, name.numberAt(0), name.numberAt(1))) {
                    answer.setNumber(TAG_NO_OBJECT, 0);
                } else if (slot == NONE) {
                    answer.setNumber(TAG_NO_INSTANCE, 0);
                } else {
                    answer.takeValue(at(of.context, slot));
                }
            }
        }

        void answerNext(Message of, View view, Message into) {
            for (int i = 0; i < of.count && i < MOST_BINDINGS; i++) {
                addNext(of.context, of.bindings[i].name, view, into);
            }
        }

        void answerBulk(Message of, View view, Message into) {
            int few = Math.min(Math.max(of.status, 0), of.count);
            int others = of.count - few;
            for (int i = 0; i < few && i < MOST_BINDINGS; i++) {
                addNext(of.context, of.bindings[i].name, view, into);
            }
            int rounds = others == 0 ? 0 : Math.min(Math.max(of.index, 0), 8);
            boolean isGoingOn = true;
            for (int round = 0; round < rounds && isGoingOn; round++) {
                isGoingOn = false;
                for (int i = 0; i < others && into.count < MOST_BINDINGS; i++) {
                    // What was told for this one in the ROUND ahead stands just so many BINDINGS ahead.
                    Binding from = round == 0 ? of.bindings[few + i] : into.bindings[into.count - others];
                    if (addNext(of.context, from.name, view, into)) {
                        isGoingOn = true;
                    }
                }
            }
        }

        /** Judges a SET, and answers it as if it were done. */
        void answerSet(Message of, View view, Message into) {
            into.takeBindings(of);
            for (int i = 0; i < of.count && i < MOST_BINDINGS; i++) {
                int status = statusOf(of, i, view);
                if (status != STATUS_DONE) {
                    into.status = status;
                    into.index = i + 1;
                    return;
                }
            }
            for (int i = 0; i < of.count && i < MOST_BINDINGS; i++) {
                if (isNoteWrong(of, i)) {
                    into.status = STATUS_CLASH;
                    into.index = i + 1;
                    return;
                }
            }
        }

        private int statusOf(Message of, int place, View view) {
            Binding binding = of.bindings[place];
            int a = binding.name.numberAt(0);
            int b = binding.name.numberAt(1);
            if (!view.holds(binding.name)) {
                return STATUS_NO_VIEW;
            }
            if (!canBeSet(of.context, a, b)) {
                return STATUS_NOT_SETTABLE;
            }
            if (binding.tag != tagOf(a, b)) {
                return STATUS_OTHER_TAG;
            }
            if (binding.tag == TAG_OCTETS && binding.count > MOST_SET_OCTETS) {
                return STATUS_TOO_LONG;
            }
            if (binding.tag == TAG_INTEGER && !isLet(a, b, binding.number)) {
                return STATUS_NOT_LET;
            }
            if (slotOf(of.context, binding.name) == NONE) {
                return STATUS_NO_NAME;
            }
            for (int i = 0; i < place; i++) {
                if (of.bindings[i].name.compareWith(binding.name) == 0) {
                    return STATUS_CLASH;
                }
            }
            return STATUS_DONE;
        }

        /** Whether a BINDING is of a NOTE that is there and is to come, or is not there and is not to come. */
        private boolean isNoteWrong(Message of, int place) {
            int slot = slotOf(of.context, of.bindings[place].name);
            if (!isOfNote(slot)) {
                return false;
            }
            int statusSlot = FIRST_NOTE + 2 * NOTES + (slot - FIRST_NOTE) % NOTES;
            boolean isToCome = false;
            for (int i = 0; i < of.count && i < MOST_BINDINGS; i++) {
                Binding binding = of.bindings[i];
                if (slotOf(of.context, binding.name) == statusSlot && binding.number == NOTE_COMES) {
                    isToCome = true;
                }
            }
            return isToCome == isThere(of.context, slot);
        }

        /** Does a SET that was judged right; returns the PORTS whose state became another one, as the sum of 2^PORT. */
        int change(Message of) {
            moveNotes(of, NOTE_COMES);
            int changed = 0;
            for (int i = 0; i < of.count && i < MOST_BINDINGS; i++) {
                Binding binding = of.bindings[i];
                int slot = slotOf(of.context, binding.name);
                Binding object = at(of.context, slot);
                boolean isMove = isStatus(slot) && binding.number > 2;
                if (slot != NONE && !isMove) {
                    boolean isState = binding.name.numberAt(0) == 2 && binding.tag == TAG_INTEGER;
                    if (isState && object.number != binding.number) {
                        changed |= 1 << binding.name.numberAt(2);
                    }
                    object.takeValue(binding);
                }
            }
            moveNotes(of, NOTE_GOES);
            return changed;
        }

        private static boolean isStatus(int slot) {
            return slot >= FIRST_NOTE + 2 * NOTES && slot < FIRST_COUNTER;
        }

        private void moveNotes(Message of, int status) {
            for (int i = 0; i < of.count && i < MOST_BINDINGS; i++) {
                int slot = slotOf(of.context, of.bindings[i].name);
                if (isStatus(slot) && of.bindings[i].number == status) {
                    setNote(of.context, (slot - FIRST_NOTE) % NOTES, status == NOTE_COMES);
                }
            }
        }

        boolean areCountersSound() {
            for (int slot = 0; slot < SLOTS; slot++) {
                Binding object = at(0, slot);
                if (object.tag == TAG_COUNTER && !isWithin(object.number, 0, COUNTER_END - 1)) {
                    return false;
                }
            }
            return true;
        }

        /** Whether going on by NEXT from the lowest NAME tells each OBJECT that a VIEW has, and no other one. */
        boolean isWalkedByNext(int context, View view) {
            Name from = lowest;
            for (int slot = 0; slot < SLOTS; slot++) {
                Name name = at(context, slot).name;
                if (isThere(context, slot) && view.holds(name)) {
                    if (slotBehind(context, from, view) != slot) {
                        return false;
                    }
                    from = name;
                }
            }
            return slotBehind(context, from, view) == NONE;
        }
    }

    /** A NOTICE that was SENT, with all that is told again while it is OPEN. */
    private static final class Notice {
        int number;
        int kind;
        int manager;
        int user;
        int level;
        int since;
        int time;
        int port;
        int state;
    }

    private static final class Agent {
        // Far above what 512 calls can bring.
        private static final int MOST_TAKEN = 1000000;

        final Tree tree = new Tree();
        final View[] views = new View[VIEWS];
        final ArrayList<Notice> informs = new ArrayList<Notice>();
        int now;
        int boots = 1;
        int most = MOST_BYTES;
        int lastNotice = 1000;
        private final int[] users = new int[USERS * USER_NUMBERS];
        private final int[] targets = new int[TARGETS * TARGET_NUMBERS];
        private int[] takenUsers = new int[32];
        private int[] takenIds = new int[32];
        private int[] takenTimes = new int[32];
        // TIME goes on by tick() alone, and that forgets what was TAKEN more than 30 TICKS ago.
        private int taken;

        Agent() {
            for (int i = 0; i < VIEWS; i++) {
                views[i] = new View();
            }
            Name first = new Name();
            first.add(1);
            views[0].put(first, 0, true);
            for (int user = 0; user < USERS; user++) {
                int row = user * USER_NUMBERS;
                users[row + IS_KNOWN] = user < 2 ? 1 : 0;
                users[row + KEY] = 1000 + user;
                users[row + HIGHEST] = 2;
                for (int view = READ_VIEW; view <= NOTE_VIEW; view++) {
                    users[row + view] = 0;
                    users[row + view + CONTEXT_STEP] = NONE;
                }
            }
        }

        private static boolean isUserNumber(int user, int what) {
            return isWithin(user, 0, USERS - 1) && isWithin(what, 0, USER_NUMBERS - 1);
        }

        /** What ofUser() tells; 0 of a USER that there is not. */
        int userNumber(int user, int what) {
            return isUserNumber(user, what) ? users[user * USER_NUMBERS + what] : 0;
        }

        void setUser(int user, int what, int number) {
            if (isUserNumber(user, what)) {
                users[user * USER_NUMBERS + what] = number;
            }
        }

        private static boolean isTargetNumber(int target, int what) {
            return isWithin(target, 0, TARGETS - 1) && isWithin(what, 0, TARGET_NUMBERS - 1);
        }

        int targetNumber(int target, int what) {
            return isTargetNumber(target, what) ? targets[target * TARGET_NUMBERS + what] : 0;
        }

        void setTarget(int target, int what, int number) {
            if (isTargetNumber(target, what)) {
                targets[target * TARGET_NUMBERS + what] = number;
            }
        }

        /** A VIEW of a USER by what ofUser() numbers; null for NONE. */
        View viewOf(int user, int what) {
            int view = userNumber(user, what);
            return isWithin(view, 0, VIEWS - 1) ? views[view] : null;
        }

        /** The VIEW that a request asks for; null, if it has no access. */
        View viewFor(Message of) {
            if (!isWithin(of.context, 0, CONTEXTS - 1)) {
                return null;
            }
            int group = of.context * CONTEXT_STEP;
            if (of.level < userNumber(of.user, LEAST + group)) {
                return null;
            }
            return viewOf(of.user, (of.kind == SET ? WRITE_VIEW : READ_VIEW) + group);
        }

        void beginAnew() {
            boots++;
            tree.setTime(0);
            taken = 0;
            informs.clear();
        }

        void address(Message of, int id, int user, int level) {
            of.id = id;
            of.level = level;
            of.engine = ENGINE;
            of.boots = boots;
            of.time = tree.time();
            of.user = user;
        }

        /** LET, or the COUNTER 4.x.0 that tells why not: below 0, if nothing is SENT then. */
        int judge(Message of, Row row, int fault) {
            if (fault != NONE) {
                return -FAULTY;
            }
            if (of.engine != ENGINE) {
                return FOREIGN;
            }
            if (userNumber(of.user, IS_KNOWN) == 0) {
                return UNKNOWN;
            }
            if (of.level > userNumber(of.user, HIGHEST)) {
                return TOO_HIGH;
            }
            if (of.level == 0) {
                return LET;
            }
            if (row.sumBy(userNumber(of.user, KEY), of.sumPlace) != of.sum) {
                return BADLY_SUMMED;
            }
            if (of.boots != boots || Math.abs((long) of.time - tree.time()) > 15) {
                return NOT_IN_TIME;
            }
            if (wasTaken(of.user, of.id)) {
                return -NOT_IN_TIME;
            }
            takeRow(of.user, of.id);
            return LET;
        }

        private boolean wasTaken(int user, int id) {
            for (int i = 0; i < taken && i < takenIds.length; i++) {
                if (takenUsers[i] == user && takenIds[i] == id) {
                    return true;
                }
            }
            return false;
        }

        private void takeRow(int user, int id) {
            if (taken >= takenIds.length && taken < MOST_TAKEN) {
                takenUsers = Arrays.copyOf(takenUsers, taken * 2);
                takenIds = Arrays.copyOf(takenIds, taken * 2);
                takenTimes = Arrays.copyOf(takenTimes, taken * 2);
            }
            if (taken < takenIds.length) {
                takenUsers[taken] = user;
                takenIds[taken] = id;
                takenTimes[taken] = tree.time();
                taken++;
            }
        }

        void forgetOldRows() {
            int least = tree.time() - 30;
            int kept = 0;
            for (int i = 0; i < taken && i < takenIds.length; i++) {
                if (takenTimes[i] >= least) {
                    takenUsers[kept] = takenUsers[i];
                    takenIds[kept] = takenIds[i];
                    takenTimes[kept] = takenTimes[i];
                    kept++;
                }
            }
            taken = kept;
        }

        boolean isToBeTold(int target, int port) {
            int user = targetNumber(target, AS_USER);
            int level = targetNumber(target, AT_LEVEL);
            View view = viewOf(user, NOTE_VIEW);
            if (targetNumber(target, IS_ON) == 0 || userNumber(user, IS_KNOWN) == 0 || view == null
                    || level > userNumber(user, HIGHEST) || level < userNumber(user, LEAST)) {
                return false;
            }
            boolean hasPort = port == 0 || view.holds(tree.at(0, Tree.slotOfPort(1, port)).name)
                    && view.holds(tree.at(0, Tree.slotOfPort(3, port)).name);
            return hasPort && view.holds(tree.at(0, Tree.SLOT_TIME).name);
        }

        /** Makes the next NOTICE; one by INFORM is OPEN from now on. */
        Notice newNotice(int target, int port) {
            lastNotice++;
            Notice notice = new Notice();
            notice.number = lastNotice;
            notice.kind = targetNumber(target, BY_INFORM) == 1 ? INFORM : TRAP;
            notice.manager = targetNumber(target, TO_MANAGER);
            notice.user = targetNumber(target, AS_USER);
            notice.level = targetNumber(target, AT_LEVEL);
            notice.since = now;
            notice.time = tree.time();
            notice.port = port;
            notice.state = port == 0 ? 0 : tree.at(0, Tree.slotOfPort(3, port)).number;
            if (notice.kind == INFORM) {
                informs.add(notice);
            }
            return notice;
        }

        void writeNotice(Message into, Notice notice) {
            address(into, notice.number, notice.user, notice.level);
            into.beginScope(notice.kind, 0, notice.number);
            tree.writeNotice(into, notice);
        }

        void endInform(int number, int user, int level) {
            for (int i = informs.size() - 1; i >= 0; i--) {
                Notice inform = informs.get(i);
                if (inform.number == number && inform.user == user && inform.level <= level) {
                    informs.remove(i);
                }
            }
        }

        void endOldInforms() {
            for (int i = informs.size() - 1; i >= 0; i--) {
                if (now - informs.get(i).since >= 20) {
                    informs.remove(i);
                }
            }
        }

        boolean areInformsSound() {
            for (int i = 0; i < informs.size(); i++) {
                if (!isWithin(informs.get(i).number, 1001, lastNotice)) {
                    return false;
                }
            }
            return true;
        }
    }

    /** A NOTICE that was told to a MANAGER. */
    private static final class Told {
        final int request;
        final int boots;
        final String text;

        Told(int request, int boots, String text) {
            this.request = request;
            this.boots = boots;
            this.text = text;
        }
    }

    private static final class Manager {
        final int number;
        final ArrayList<Told> notices = new ArrayList<Told>();
        int user;
        int key;
        int engine;
        int boots;
        private int time;
        private int learnedAt;
        int drafts;
        int open;
        int answers;
        int dropped;
        int lastAnswer = NONE;
        String answerText = "";
        // Of each DRAFT that was SENT, in their sequence: its LEVEL and 1 more while it is OPEN, otherwise 0.
        private final int[] openLevels = new int[MOST_CALLS];

        Manager(int number) {
            this.number = number;
            user = number;
            key = 1000 + number;
        }

        int timeAt(int now) {
            return time + (now - learnedAt);
        }

        void learn(int newEngine, int newBoots, int newTime, int now) {
            engine = newEngine;
            boots = newBoots;
            time = newTime;
            learnedAt = now;
        }

        boolean isNews(Message of, int now) {
            if (of.engine != ENGINE) {
                return false;
            }
            if (of.level == 0) {
                return engine == 0;
            }
            return of.boots > boots || of.boots == boots && of.time > timeAt(now);
        }

        int nextId() {
            return 2 * drafts + number;
        }

        void address(Message of, int id, int level, int now) {
            of.id = id;
            of.level = level;
            of.engine = engine;
            of.boots = boots;
            of.time = timeAt(now);
            of.user = user;
        }

        void openDraft(int level) {
            if (isWithin(drafts, 0, MOST_CALLS - 1)) {
                openLevels[drafts] = level + 1;
                open++;
            }
            drafts++;
        }

        /** The place of the OPEN DRAFT with an ID, NONE without. */
        private int placeOfOpen(int id) {
            int place = id >> 1;
            boolean isOpen = (id & 1) == number && isWithin(place, 0, MOST_CALLS - 1) && openLevels[place] > 0;
            return isOpen ? place : NONE;
        }

        boolean isAnswer(Message of) {
            int place = placeOfOpen(of.id);
            if (place == NONE) {
                return false;
            }
            return of.kind == REPORT
                    || of.kind == RESPONSE && of.request == of.id && of.level + 1 >= openLevels[place];
        }

        void takeAnswer(int id, String scope) {
            int place = placeOfOpen(id);
            if (place != NONE) {
                openLevels[place] = 0;
                open--;
            }
            answers++;
            lastAnswer = id;
            answerText = scope;
        }

        boolean wasTold(int request, int ofBoots) {
            for (int i = 0; i < notices.size(); i++) {
                if (notices.get(i).request == request && notices.get(i).boots == ofBoots) {
                    return true;
                }
            }
            return false;
        }

        boolean areDraftsSound() {
            for (int i = Math.max(drafts, 0); i < MOST_CALLS; i++) {
                if (openLevels[i] != 0) {
                    return false;
                }
            }
            return true;
        }
    }
}
