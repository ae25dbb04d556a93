import java.util.Objects;

/** Counts the answers that are due and those that are not, and tells each one that is not. */
final class Check {
    /** A call that is to be looked at. */
    interface Call {
        Object answer();
    }

    private final String name;
    private int right;
    private int wrong;

    Check(String name) {
        this.name = name;
    }

    void same(String call, Object got, Object due) {
        if (Objects.equals(got, due)) {
            right++;
        } else {
            wrong++;
            System.out.println(name + ": " + call + " answered " + got + ", due is " + due);
        }
    }

    void io(String call, Call made) {
        same(call, outcome(made), "throws.IndexOutOfBoundsException");
    }

    void illegal(String call, Call made) {
        same(call, outcome(made), "throws.IllegalArgumentException");
    }

    void state(String call, Call made) {
        same(call, outcome(made), "throws.IllegalStateException");
    }

    /** The answer, or throws. and the name of what was thrown. */
    static Object outcome(Call made) {
        try {
            return made.answer();
        } catch (RuntimeException thrown) {
            return "throws." + thrown.getClass().getSimpleName();
        }
    }

    void end() {
        System.out.println(name + ": " + right + " answers as due, " + wrong + " not");
        if (wrong != 0 || right == 0) {
            System.exit(1);
        }
    }
}
