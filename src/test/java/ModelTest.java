import java.lang.reflect.InvocationTargetException;
import java.lang.reflect.Method;
import java.util.Arrays;
import java.util.HashMap;
import java.util.Map;
import java.util.TreeMap;

/** Long runs of calls of every kind, the same on a Signkinds and on a Model: each answer must be the same. */
public final class ModelTest {
    private static final Check CHECK = new Check("ModelTest");
    private static final int RUNS = 1500;
    private static final int CALLS = 250;

    /** For each method what its arguments are, a letter each (the letters: argument()). */
    private static final String ARGUMENTS = "lay:rssss drop:rm copy:rr raise:r sink:r sieve:rkb strip:r turn:r write:rnx"
            + " spell:rr read:rr send:tc put:tu cut:tm flip:t reverse:t undo: knock: isDigit:s isLetter:s"
            + " isLetterOrDigit:s isWhite:s isGreat:s kinds:s upper:sb lower:sb value:sb number:sXb digit:XX length:r"
            + " at:rp count:rk first:rkp last:rk forms:r spelled:r told:rx sum:rX values:r words:r word:rmb isAlike:rr"
            + " order:rr isCode:c isPlain:c isWide:c units:c half:cb code:uu ofUnit:uk compare:uu ofTrack:tk unit:tp"
            + " codeAt:tp nth:tp house:k isSound: digest:";
    private static final int[] WILD = {Integer.MIN_VALUE, Integer.MIN_VALUE + 1, -65536, -10, -9, -3, -2, -1, 0, 1, 2, 3,
        4, 5, 6, 24, 25, 36, 37, 40, 41, 255, 256, 999999, 1000000, 55295, 55296, 56319, 56320, 57343, 57344, 65535,
        65536, 1114111, 1114112, Integer.MAX_VALUE - 1, Integer.MAX_VALUE};
    private static final int[] CODES = {0, 65, 216, 220, 255, 55296, 56319, 56320, 57343, 57344, 65535, 65536, 66560,
        128512, 1114111, 222, 223, 224};
    private static final String[] SIGNS = {"0123456789abcdefABCDEF", " \t\n\u001c\u001f", "aZ0\u00e9\u00c9 -_",
        "\u00b5\u00ff\u00df\u00aa\u00ba\u00d7\u00f7\u00b2\u00b3\u00b9\u00bc\u00bd\u00be", "@[`{/:\u00bf\u00c0\u00d8\u00d6\u00f6"};

    private long chance;

    private ModelTest(long run) {
        chance = run * 7919 + 17;
    }

    public static void main(String[] args) throws Exception {
        String[] calls = ARGUMENTS.split(" ");
        Map<String, Method> real = methods(Signkinds.class);
        Map<String, Method> model = methods(Model.class);
        CHECK.same("the calls that are made", calls.length, real.size());
        CHECK.same("the calls that the model answers", model.keySet(), real.keySet());
        for (int run = 0; run < RUNS; run++) {
            new ModelTest(run).run(run, calls, real, model);
        }
        CHECK.end();
    }

    private static Map<String, Method> methods(Class<?> of) {
        Map<String, Method> methods = new TreeMap<>();
        for (Method method : of.getDeclaredMethods()) {
            if (java.lang.reflect.Modifier.isPublic(method.getModifiers())) {
                methods.put(method.getName(), method);
            }
        }
        return methods;
    }

    private void run(int run, String[] calls, Map<String, Method> real, Map<String, Method> model) throws Exception {
        Signkinds x = new Signkinds();
        Model y = new Model();
        // Some runs lay and send more than others, so that rows and tracks get full in them.
        Map<Integer, String> likely = new HashMap<>();
        for (int k = 0; k < 4; k++) {
            likely.put(k, calls[chance(calls.length)]);
        }
        for (int call = 0; call < CALLS; call++) {
            String[] made = chosen(calls, likely).split(":");
            Object[] arguments = new Object[made.length > 1 ? made[1].length() : 0];
            for (int k = 0; k < arguments.length; k++) {
                arguments[k] = argument(made[1].charAt(k), run);
            }
            String told = "run " + run + " call " + call + ": " + made[0] + Arrays.toString(arguments);
            Object due = outcome(model.get(made[0]), y, arguments);
            CHECK.same(told, outcome(real.get(made[0]), x, arguments), due);
            CHECK.same(told + ", then digest()", x.digest(), y.digest());
        }
    }

    private String chosen(String[] calls, Map<Integer, String> likely) {
        int way = chance(10);
        if (way < 3) {
            return likely.get(chance(4));
        }
        if (way < 5) {
            return new String[] {calls[0], calls[0], "send:tc", "put:tu", "write:rnx"}[chance(5)];
        }
        return calls[chance(calls.length)];
    }

    private static Object outcome(Method method, Object on, Object[] arguments) throws Exception {
        try {
            return method.invoke(on, arguments);
        } catch (InvocationTargetException thrown) {
            return "throws." + thrown.getCause().getClass().getName();
        }
    }

    private int chance(int many) {
        chance = chance * 6364136223846793005L + 1442695040888963407L;
        return (int) ((chance >>> 33) % many);
    }

    private Object argument(char letter, int run) {
        if (letter == 'b') {
            return chance(2) == 0;
        }
        if (chance(25) == 0) {
            return WILD[chance(WILD.length)];
        }
        switch (letter) {
            case 'r':
                return chance(3) > 0 ? chance(2) : chance(4);
            case 't':
                return chance(2);
            case 's':
                return sign(run);
            case 'm':
                return chance(6);
            case 'k':
                return chance(4) + (chance(4) == 0 ? 1 : 0);
            case 'n':
                return chance(3) == 0 ? chance(40) : chance(1000000);
            case 'x':
                return chance(2) == 0 ? 2 + chance(35) : new int[] {2, 16, 35, 36}[chance(4)];
            case 'X':
                return chance(40) - 1;
            case 'c':
                return chance(4) == 0 ? chance(1114112) : CODES[chance(CODES.length)];
            case 'u':
                return chance(4) == 0 ? chance(65536) : CODES[chance(11)];
            default:
                return chance(3) == 0 ? chance(45) : chance(8);
        }
    }

    private int sign(int run) {
        if (chance(8) == 0) {
            return -1;
        }
        String signs = SIGNS[run % SIGNS.length];
        return chance(6) == 0 ? chance(256) : signs.charAt(chance(signs.length()));
    }
}
