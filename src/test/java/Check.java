import java.util.Objects;
import java.util.function.Function;
import java.util.function.Supplier;

/** Counts the answers that are due and those that are not, and tells each one that is not. */
final class Check {
    static final String INDEX = "throws.IndexOutOfBoundsException";
    static final String ARGUMENT = "throws.IllegalArgumentException";
    static final String STATE = "throws.IllegalStateException";

    /** A call that is to be looked at. */
    interface Call {
        Object answer();
    }

    private final String name;
    private int right;
    private int wrong;

    Check(String name) {
        this.name = name;
    }

    void same(String call, Object got, Object due) {
        if (Objects.equals(got, due)) {
            right++;
        } else {
            wrong++;
            System.out.println(name + ": " + call + " answered " + got + ", due is " + due);
        }
    }

    void io(String call, Call made) {
        same(call, outcome(made), INDEX);
    }

    void illegal(String call, Call made) {
        same(call, outcome(made), ARGUMENT);
    }

    void state(String call, Call made) {
        same(call, outcome(made), STATE);
    }

    /**
     * The call is refused as is due (by what it throws, or by -9), and nothing is other by it: neither what is there,
     * nor what each step back brings.
     */
    void refused(String call, Supplier<Signkinds> maker, Function<Signkinds, Object> made, Object due) {
        Signkinds x = maker.get();
        same(call, outcome(() -> made.apply(x)), due);
        same("all after " + call, Made.allWithStepsBack(x), Made.allWithStepsBack(maker.get()));
    }

    /** The answer, or throws. and the name of what was thrown. */
    static Object outcome(Call made) {
        try {
            return made.answer();
        } catch (RuntimeException thrown) {
            return "throws." + thrown.getClass().getSimpleName();
        }
    }

    int answers() {
        return right + wrong;
    }

    void end() {
        System.out.println(name + ": " + right + " answers as due, " + wrong + " not");
        if (wrong != 0 || right == 0) {
            System.exit(1);
        }
    }
}
