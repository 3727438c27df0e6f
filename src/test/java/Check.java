import java.util.Objects;

/** Counts what the tests find, and prints what is not as it is due. */
final class Check {
    static int passed;
    static int failed;

    interface Call {
        Object run();
    }

    private Check() {
    }

    static void same(String what, Object due, Object got) {
        boolean isSame = due instanceof Number && got instanceof Number
                ? ((Number) due).longValue() == ((Number) got).longValue()
                : Objects.equals(due, got);
        count(isSame, what + " answered " + got + ", due is " + due);
    }

    static void is(String what, boolean isSo) {
        count(isSo, what);
    }

    /** A call throws just that exception, and changes nothing. */
    static void refusesBy(Class<?> due, Agenttree x, String what, Call call) {
        long before = x.digest();
        Object got;
        try {
            got = call.run();
        } catch (RuntimeException e) {
            got = e.getClass();
        }
        same(what, due, got);
        same(what + ", then digest()", before, x.digest());
    }

    static void badPlace(Agenttree x, String what, Call call) {
        refusesBy(IndexOutOfBoundsException.class, x, what, call);
    }

    static void badArgument(Agenttree x, String what, Call call) {
        refusesBy(IllegalArgumentException.class, x, what, call);
    }

    static void badState(Agenttree x, String what, Call call) {
        refusesBy(IllegalStateException.class, x, what, call);
    }

    /** A call tells REFUSED, and changes nothing but how often that was told. */
    static void refused(Agenttree x, String what, Call call) {
        long before = x.digest();
        same(what, -9, call.run());
        same(what + ", then digest()", before + Face.REFUSED_ONCE, x.digest());
    }

    private static void count(boolean isRight, String what) {
        if (isRight) {
            passed++;
        } else {
            failed++;
            System.out.println("wrong: " + what);
        }
    }
}
