import java.io.IOException;
import java.lang.reflect.InvocationTargetException;
import java.lang.reflect.Method;
import java.util.ArrayList;
import java.util.Arrays;
import java.util.List;
import java.util.Map;
import java.util.TreeMap;
import java.util.function.Function;
import java.util.function.Supplier;

/** What the document says ahead of its part 1 of all calls: what is refused, which refusal comes first, what changes. */
public final class RefusalBoundsTest {
    private static final Check CHECK = new Check("RefusalBoundsTest");
    private static final int NONE = -1;
    private static final int NOT_DONE = -9;

    /** Each call of the part "what is done", as it can be done in a filled object. */
    private static final String DONE = "lay 0 65 -1 66 -1; drop 0 1; copy 0 1; raise 0; sink 0; sieve 0 0 true; strip 0;"
            + " turn 0; write 0 5 10; spell 2 1; read 1 0; send 0 65; put 0 65; cut 0 1; flip 0; reverse 0; undo; knock";
    /** Each call that asks. */
    private static final String ASKED = "isDigit 65; isLetter 65; isLetterOrDigit 65; isWhite 65; isGreat 65; kinds 65;"
            + " upper 65 true; lower 65 false; value 65 true; number 65 16 false; digit 5 10; length 0; at 0 1; count 0 1;"
            + " first 0 1 0; last 0 1; forms 0; spelled 0; told 1 16; sum 0 16; values 0; words 0; word 0 0 true;"
            + " isAlike 0 1; order 0 1; isCode 65; isPlain 65; isWide 65; units 65; half 65536 true; code 55296 56320;"
            + " ofUnit 65 0; compare 65 66; ofTrack 0 1; unit 0 1; codeAt 0 0; nth 0 0; house 0; isSound; digest";
    private static final int[] WILD = {Integer.MIN_VALUE, -65536, -9, -2, -1, 0, 1, 2, 3, 4, 5, 6, 24, 36, 37, 40, 41, 255,
        256, 55296, 56320, 65535, 65536, 999999, 1000000, 1114111, 1114112, Integer.MAX_VALUE};

    private static final Map<String, Method> METHODS = new TreeMap<>();

    public static void main(String[] args) throws IOException {
        for (Method method : Signkinds.class.getDeclaredMethods()) {
            if (java.lang.reflect.Modifier.isPublic(method.getModifiers())) {
                METHODS.put(method.getName(), method);
            }
        }
        Sentences said = new Sentences(CHECK).ofPart("## Description", "1. Signs");
        said.namesNoCase("Whole numbers.");
        said.says("NONE is -1.", RefusalBoundsTest::none);
        said.says("-9 is told where a call can not be done; nothing changes then.", RefusalBoundsTest::notDone);
        said.says("Of several the first one is taken, if nothing else is said.", RefusalBoundsTest::firstOfSeveral);
        said.says("What is asked changes nothing.", () -> wildCalls(ASKED, false));
        said.says("A method that throws an exception changes nothing.", () -> wildCalls(DONE, true));
        said.says("If several exceptions apply, the one that is named first is thrown.",
                RefusalBoundsTest::severalExceptions);
        CHECK.same("the calls that are looked at", (DONE + "; " + ASKED).split("; ").length, METHODS.size());
        said.end();
    }

    private static void none() {
        Signkinds x = Made.row("a");
        CHECK.same("value() of none", x.value(0, true), -1);
        CHECK.same("number() of none", x.number(0, 10, true), -1);
        CHECK.same("first() of none", x.first(0, 0, 0), -1);
        CHECK.same("last() of none", x.last(0, 0), -1);
        CHECK.same("lay() of nothing", x.lay(0, -1, -1, -1, -1), 1);
    }

    private static void notDone() {
        List<Supplier<Signkinds>> makers = List.of(RefusalBoundsTest::full, RefusalBoundsTest::fullOfFewSteps,
                RefusalBoundsTest::fullAndUndone);
        for (Supplier<Signkinds> maker : makers) {
            refused("write", maker, x -> x.write(0, 0, 10));
            refused("spell", maker, x -> x.spell(0, 1));
            refused("read of what has no number", maker, x -> x.read(0, 1));
            refused("read of an odd one", maker, x -> x.read(2, 1));
            refused("send of a plain code", maker, x -> x.send(0, 65));
            refused("send of a wide code", maker, x -> x.send(0, 65536));
            refused("put", maker, x -> x.put(0, 65));
            refused("told", maker, x -> x.told(0, 10));
            refused("told of none", maker, x -> x.told(3, 10));
        }
    }

    private static void refused(String call, Supplier<Signkinds> maker, Function<Signkinds, Object> made) {
        CHECK.refused(call + ", that can not be done,", maker, made, NOT_DONE);
    }

    /** The row 0 and both tracks are full, there are three signs in the row 2, and six steps can be undone. */
    private static Signkinds full() {
        Signkinds x = Made.trackOf(24);
        for (int k = 0; k < 12; k++) {
            x.send(1, 65536 + k);
        }
        x.lay(2, '1', '2', '3', NONE);
        return Made.with(x, 0, "ab -".repeat(10));
    }

    /** The same, but only two steps can be undone. */
    private static Signkinds fullOfFewSteps() {
        Signkinds x = full();
        for (int k = 0; k < 6; k++) {
            x.undo();
        }
        x.copy(0, 0);
        Made.with(x, 0, "zz -".repeat(2));
        for (int k = 0; k < 3; k++) {
            x.undo();
        }
        x.copy(0, 3);
        x.drop(3, 16);
        x.spell(2, 0);
        x.undo();
        Made.with(x, 0, "zz -".repeat(6));
        for (int k = 0; k < 4; k++) {
            x.turn(0);
        }
        for (int k = 0; k < 4; k++) {
            x.undo();
        }
        return x;
    }

    /** The same, behind a step that was undone. */
    private static Signkinds fullAndUndone() {
        Signkinds x = full();
        x.drop(0, 7);
        x.undo();
        x.knock();
        return x;
    }

    private static void firstOfSeveral() {
        Signkinds x = Made.row("-1a1-b2-");
        CHECK.same("the first of several digits", x.first(0, 0, 0), 1);
        CHECK.same("the first of several letters", x.first(0, 1, 0), 2);
        CHECK.same("the first of several words", x.word(0, 0, false), 1);
        Signkinds y = Made.with(Made.row("abcd"), 1, "azca");
        CHECK.same("the first of several places that are not the same", y.order(0, 1), -1);
        CHECK.same("the first of several places, the other way round", y.order(1, 0), 1);
        CHECK.same("the first of several codes", Made.track(55296, 56320, 55297, 56321).nth(0, 0), 65536);
    }

    /**
     * Makes the calls with each argument put wrong, and with all of them put wrong, of a new object, a filled one and a
     * full one. What they throw must be in the face; by what throws, tells -9, or only asks nothing may be other.
     */
    private static void wildCalls(String calls, boolean mayChange) {
        for (String call : calls.split("; ")) {
            String[] words = call.split(" ");
            Object[] right = new Object[words.length - 1];
            for (int k = 0; k < right.length; k++) {
                boolean isTruth = words[k + 1].equals("true") || words[k + 1].equals("false");
                right[k] = isTruth ? (Object) words[k + 1].equals("true") : (Object) Integer.parseInt(words[k + 1]);
            }
            for (Object[] arguments : wildArguments(right)) {
                wildCall(METHODS.get(words[0]), arguments, Signkinds::new, mayChange);
                wildCall(METHODS.get(words[0]), arguments, Made::filled, mayChange);
                wildCall(METHODS.get(words[0]), arguments, RefusalBoundsTest::full, mayChange);
            }
        }
    }

    private static List<Object[]> wildArguments(Object[] right) {
        List<Object[]> all = new ArrayList<>();
        all.add(right);
        for (int wild : WILD) {
            Object[] wrong = right.clone();
            for (int k = 0; k < right.length; k++) {
                if (right[k] instanceof Integer) {
                    wrong[k] = wild;
                    Object[] one = right.clone();
                    one[k] = wild;
                    all.add(one);
                }
            }
            all.add(wrong);
        }
        return all;
    }

    private static void wildCall(Method method, Object[] arguments, Supplier<Signkinds> maker, boolean mayChange) {
        Signkinds x = maker.get();
        String told = method.getName() + Arrays.toString(arguments);
        boolean isRefused;
        try {
            isRefused = Integer.valueOf(NOT_DONE).equals(method.invoke(x, arguments));
        } catch (InvocationTargetException thrown) {
            isRefused = true;
            boolean isNamed = Arrays.asList(method.getExceptionTypes()).contains(thrown.getCause().getClass());
            CHECK.same(told + " throws " + thrown.getCause() + " as its face says", isNamed, true);
        } catch (IllegalAccessException never) {
            throw new IllegalStateException(never);
        }
        if (isRefused || !mayChange) {
            CHECK.same("all after " + told, Made.allWithStepsBack(x), Made.allWithStepsBack(maker.get()));
        }
    }

    private static void severalExceptions() {
        Supplier<Signkinds> full = RefusalBoundsTest::full;
        CHECK.refused("lay: no row, no sign, too many", full, x -> x.lay(4, 1, 2, 3, 256), Check.INDEX);
        CHECK.refused("lay: no sign, too many", full, x -> x.lay(0, 1, 2, 3, 256), Check.ARGUMENT);
        CHECK.refused("lay: too many", full, x -> x.lay(0, 1, 2, 3, 4), Check.STATE);
        CHECK.refused("drop: no row, too many", full, x -> x.drop(-1, 41), Check.INDEX);
        CHECK.refused("sieve: no row, no kind", full, x -> x.sieve(4, 5, false), Check.INDEX);
        CHECK.refused("write: no row, no number, no radix, no room", full, x -> x.write(4, -1, 1), Check.INDEX);
        CHECK.refused("write: no number, no room", full, x -> x.write(0, -1, 2), Check.ARGUMENT);
        CHECK.refused("write: no radix, no room", full, x -> x.write(0, 0, 1), Check.ARGUMENT);
        CHECK.refused("write: no room", full, x -> x.write(0, 0, 2), NOT_DONE);
        CHECK.refused("spell: no rows, the same, too many", full, x -> x.spell(4, 4), Check.INDEX);
        CHECK.refused("spell: no row, too many", full, x -> x.spell(0, 4), Check.INDEX);
        CHECK.refused("spell: the same, too many", full, x -> x.spell(0, 0), Check.ARGUMENT);
        CHECK.refused("spell: too many", full, x -> x.spell(0, 1), NOT_DONE);
        CHECK.refused("read: no rows, the same", full, x -> x.read(-1, -1), Check.INDEX);
        CHECK.refused("read: no row, no numbers", full, x -> x.read(0, -1), Check.INDEX);
        CHECK.refused("read: the same, no numbers", full, x -> x.read(0, 0), Check.ARGUMENT);
        CHECK.refused("read: no numbers", full, x -> x.read(0, 1), NOT_DONE);
        CHECK.refused("send: no track, no code, no room", full, x -> x.send(2, -1), Check.INDEX);
        CHECK.refused("send: no code, no room", full, x -> x.send(0, 1114112), Check.ARGUMENT);
        CHECK.refused("put: no track, no unit, no room", full, x -> x.put(-1, 65536), Check.INDEX);
        CHECK.refused("put: no unit, no room", full, x -> x.put(0, 65536), Check.ARGUMENT);
        CHECK.refused("cut: no track, too many", full, x -> x.cut(2, 25), Check.INDEX);
        CHECK.refused("count: no row, no kind", full, x -> x.count(4, 5), Check.INDEX);
        CHECK.refused("first: no row, no kind, no place", full, x -> x.first(4, 5, -1), Check.INDEX);
        CHECK.refused("first: no row, no place", full, x -> x.first(-1, 0, -1), Check.INDEX);
        CHECK.refused("last: no row, no kind", full, x -> x.last(4, -1), Check.INDEX);
        CHECK.refused("told: no row, no radix", full, x -> x.told(4, 37), Check.INDEX);
        CHECK.refused("told: no radix, no numbers", full, x -> x.told(0, 37), Check.ARGUMENT);
        CHECK.refused("ofTrack: no track, no what", full, x -> x.ofTrack(2, 4), Check.INDEX);
    }
}
