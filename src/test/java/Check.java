import java.util.Objects;

/** Counts answers that are not as due; every test ends by {@link #end()}. */
final class Check {
    /** A call of the face, with what it answers. */
    interface Call {
        Object answer();
    }

    private final String test;
    private int right;
    private int wrong;

    Check(String test) {
        this.test = test;
    }

    /** The answer of a call as a text, or throws.Name. */
    static String told(Call call) {
        try {
            return String.valueOf(call.answer());
        } catch (RuntimeException e) {
            return "throws." + e.getClass().getSimpleName();
        }
    }

    void due(String what, Object got, Object want) {
        if (Objects.equals(String.valueOf(got), String.valueOf(want))) {
            right++;
        } else {
            wrong++;
            System.out.println(test + ": " + what + " answered " + got + ", due is " + want);
        }
    }

    void due(String what, Call call, Object want) {
        due(what, told(call), want);
    }

    private void refused(String what, LaceRanks x, Call call, String name) {
        long before = x.digest();
        due(what, told(call), "throws." + name);
        due(what + ": the digest behind a call that throws", x.digest(), before);
    }

    void noIndex(String what, LaceRanks x, Call call) {
        refused(what, x, call, "IndexOutOfBoundsException");
    }

    void noArgument(String what, LaceRanks x, Call call) {
        refused(what, x, call, "IllegalArgumentException");
    }

    void noState(String what, LaceRanks x, Call call) {
        refused(what, x, call, "IllegalStateException");
    }

    int answers() {
        return right + wrong;
    }

    boolean isRight() {
        return wrong == 0;
    }

    void end() {
        System.out.println(test + ": " + right + " answers as due, " + wrong + " not");
        if (wrong != 0 || right == 0) {
            System.exit(1);
        }
    }
}
