import java.util.ArrayList;
import java.util.List;

/** The digest by what else the object answers; it puts HAND back as it was. */
final class Digests {
    private static final String[] COLUMNS = {"1.1.0", "1.2.0", "1.3.0", "2.1.p", "2.2.p", "2.3.p", "2.4.p", "2.5.p",
        "3.1.n", "3.2.n", "3.3.n", "4.1.0", "4.2.0", "4.3.0", "4.4.0", "4.5.0", "4.6.0", "4.7.0", "4.8.0"};

    private long d = 7684;

    private Digests() {
    }

    static long of(Agenttree x) {
        Digests digest = new Digests();
        digest.mixAll(x);
        return digest.d;
    }

    private void mix(long v) {
        d = d * 31 + v;
    }

    private void mix(String text) {
        for (int i = 0; i < text.length(); i++) {
            mix(text.charAt(i));
        }
    }

    private void mixObject(Agenttree x, int context, String name) {
        String value = Talk.value(x, context, name);
        if (!value.isEmpty()) {
            mix(name);
            mix(value);
        }
    }

    private void mixObjects(Agenttree x, int context) {
        List<String> notes = new ArrayList<>();
        for (int n = 0; n < 12; n++) {
            String note = n / 4 + 1 + "." + (n % 4 + 1);
            if (!Talk.value(x, context, "3.3." + note).isEmpty()) {
                notes.add(note);
            }
        }
        for (String column : COLUMNS) {
            String stem = column.substring(0, 4);
            boolean isOfBoth = column.startsWith("1.1") || column.startsWith("1.2");
            for (int p = 1; p <= 4 && column.endsWith("p") && context == 0; p++) {
                mixObject(x, context, stem + p);
            }
            for (int n = 0; n < notes.size() && column.endsWith("n"); n++) {
                mixObject(x, context, stem + notes.get(n));
            }
            if (column.endsWith("0") && (context == 0 || isOfBoth)) {
                mixObject(x, context, column);
            }
        }
    }

    private void mixAll(Agenttree x) {
        String hand = x.hand();
        for (int i = 0; i < 10; i++) {
            mix(x.ofAgent(i));
        }
        for (int context = 0; context < 2; context++) {
            mixObjects(x, context);
        }
        mix(hand);
        if (!hand.isEmpty()) {
            Talk.hold(x, hand);
        }
        for (int user = 0; user < 5; user++) {
            for (int what = 0; what < 11; what++) {
                mix(x.ofUser(user, what));
            }
            mix(x.walk(user, 0));
            mix(x.walk(user, 1));
        }
        for (int view = 0; view < 4; view++) {
            mix(x.families(view));
        }
        for (int i = 0; i < 20; i++) {
            mix(x.ofTarget(i / 5, i % 5));
        }
        for (int manager = 0; manager < 2; manager++) {
            for (int what = 0; what < 12; what++) {
                mix(x.ofManager(manager, what));
            }
            mix(x.answer(manager));
            int told = x.ofManager(manager, 8);
            for (int k = 0; k < told; k++) {
                mix(x.told(manager, k));
            }
        }
        mix(x.draftText());
        mixLine(x);
    }

    private void mixLine(Agenttree x) {
        int rows = x.rows();
        for (int k = 0; k < rows; k++) {
            for (int what = 0; what < 5; what++) {
                mix(x.ofRow(k, what));
            }
            int bytes = x.ofRow(k, 2);
            for (int place = 0; place < bytes; place++) {
                mix(x.byteOf(k, place));
            }
        }
        mix(x.fault());
        mix(x.read());
        for (int what = 0; what < 5; what++) {
            mix(x.house(what));
        }
        mix(x.isSound() ? 1 : 0);
    }
}
