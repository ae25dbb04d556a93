import java.io.IOException;
import java.util.function.BiFunction;
import java.util.stream.IntStream;

/** Each sentence of part 1 of the document, "Signs", and of promises 20 to 30, at its edges. */
public final class SignBoundsTest {
    private static final Check CHECK = new Check("SignBoundsTest");
    private static final String NO_SIGN = "Throws `IllegalArgumentException` if sign is no SIGN";
    private static final int NONE = -1;
    private static final int MIN = Integer.MIN_VALUE;
    private static final int MAX = Integer.MAX_VALUE;

    // The first and the last sign of each run of them, as the document tells them.
    private static final int[] DIGITS = {48, 57};
    private static final int[] LETTERS = {65, 90, 97, 122, 170, 170, 181, 181, 186, 186, 192, 214, 216, 246, 248, 255};
    private static final int[] WHITES = {9, 13, 28, 32};
    private static final int[] GREATS = {65, 90, 192, 214, 216, 222};
    private static final int[] SMALLS_OF_GREATS = {97, 122, 224, 246, 248, 254};

    public static void main(String[] args) throws IOException {
        Sentences said = new Sentences(CHECK).ofPart("1. Signs", "2. Rows").ofPromises(20, 30);
        partOne(said);
        kindPromises(said);
        otherPromises(said);
        said.end();
    }

    private static void partOne(Sentences said) {
        said.says("SIGNS are 0 to 255.", SignBoundsTest::signs);
        said.says("KINDS: 0 DIGIT: 48 to 57.", () -> kind(0, DIGITS, Signkinds::isDigit));
        said.says("1 LETTER: 65 to 90, 97 to 122, 170, 181, 186, 192 to 214, 216 to 246, 248 to 255.",
                () -> kind(1, LETTERS, Signkinds::isLetter));
        said.says("2 LETTER OR DIGIT: these both.",
                () -> kind(2, joined(LETTERS, DIGITS), Signkinds::isLetterOrDigit));
        said.says("3 WHITE: 9 to 13, 28 to 32.", () -> kind(3, WHITES, Signkinds::isWhite));
        said.says("4 GREAT: 65 to 90, 192 to 214, 216 to 222.", () -> kind(4, GREATS, Signkinds::isGreat));
        said.says("UPPER of a SIGN: of 97 to 122, 224 to 246, and 248 to 254 it is 32 less; of 181 it is 924; of 255 it"
                + " is 376 (these two are no SIGNS); of each other one itself.", SignBoundsTest::upper);
        said.says("LOWER: of a GREAT one 32 more, of each other one itself.", SignBoundsTest::lower);
        said.says("VALUE of a SIGN: of 48 to 57 it is 48 less, of 65 to 90 55 less, of 97 to 122 87 less; of 178 it is 2,"
                + " of 179 3, of 185 1; of 188, 189 and 190 it is -2; of each other one NONE.", SignBoundsTest::value);
        said.says("A RADIX is 2 to 36.", SignBoundsTest::radix);
        said.says("The number of a SIGN in a RADIX: its VALUE, if it is one of 48 to 57, 65 to 90, 97 to 122, and that is"
                + " less than the RADIX; otherwise NONE (also if it is no RADIX).", SignBoundsTest::number);
        said.says("The DIGIT of a number in a RADIX: of 0 to 9 it is 48 more, of 10 to 35 87 more, if the number is 0 or"
                + " more, and less than the RADIX; otherwise 0 (also if it is no RADIX).", SignBoundsTest::digit);
    }

    private static void kindPromises(Sentences said) {
        said.promises(20, "Returns whether it is a DIGIT.", () -> edges(DIGITS, Signkinds::isDigit));
        said.promises(20, NO_SIGN, () -> noSign("isDigit", Signkinds::isDigit));
        said.promises(21, "Returns whether it is a LETTER.", () -> edges(LETTERS, Signkinds::isLetter));
        said.promises(21, NO_SIGN, () -> noSign("isLetter", Signkinds::isLetter));
        said.promises(22, "Returns whether it is one of both.",
                () -> edges(joined(LETTERS, DIGITS), Signkinds::isLetterOrDigit));
        said.promises(22, NO_SIGN, () -> noSign("isLetterOrDigit", Signkinds::isLetterOrDigit));
        said.promises(23, "Returns whether it is WHITE.", () -> edges(WHITES, Signkinds::isWhite));
        said.promises(23, NO_SIGN, () -> noSign("isWhite", Signkinds::isWhite));
        said.promises(24, "Returns whether it is GREAT.", () -> edges(GREATS, Signkinds::isGreat));
        said.promises(24, NO_SIGN, () -> noSign("isGreat", Signkinds::isGreat));
        said.promises(25, "Returns the sum of 2^k for each KIND k that it is of.", SignBoundsTest::kinds);
        said.promises(25, NO_SIGN, () -> noSign("kinds", Signkinds::kinds));
    }

    private static void otherPromises(Sentences said) {
        said.promises(26, "Returns its UPPER.", SignBoundsTest::upperAsBoth);
        said.promises(26, NO_SIGN, () -> {
            noSign("upper, as a code,", (x, sign) -> x.upper(sign, true));
            noSign("upper, as a unit,", (x, sign) -> x.upper(sign, false));
        });
        said.promises(27, "Returns its LOWER.", SignBoundsTest::lowerAsBoth);
        said.promises(27, NO_SIGN, () -> {
            noSign("lower, as a code,", (x, sign) -> x.lower(sign, true));
            noSign("lower, as a unit,", (x, sign) -> x.lower(sign, false));
        });
        said.promises(28, "Returns its VALUE.", SignBoundsTest::valueAsBoth);
        said.promises(28, NO_SIGN, () -> {
            noSign("value, as a code,", (x, sign) -> x.value(sign, true));
            noSign("value, as a unit,", (x, sign) -> x.value(sign, false));
        });
        said.promises(29, "Returns its number in that RADIX.", SignBoundsTest::numberAsBoth);
        said.promises(29, NO_SIGN, () -> {
            for (int radix : new int[] {MIN, 1, 2, 36, 37, MAX}) {
                noSign("number, as a code in " + radix + ",", (x, sign) -> x.number(sign, radix, true));
                noSign("number, as a unit in " + radix + ",", (x, sign) -> x.number(sign, radix, false));
            }
        });
        said.promises(30, "Returns the DIGIT of the first one in that RADIX.", SignBoundsTest::digitOfAny);
    }

    private static int[] joined(int[] one, int[] two) {
        return IntStream.concat(IntStream.of(one), IntStream.of(two)).toArray();
    }

    private static boolean isIn(int sign, int[] edges) {
        for (int k = 0; k < edges.length; k += 2) {
            if (sign >= edges[k] && sign <= edges[k + 1]) {
                return true;
            }
        }
        return false;
    }

    /** What is no sign throws, and nothing is other by it; the least and the greatest sign do not throw. */
    private static void noSign(String call, BiFunction<Signkinds, Integer, Object> asked) {
        for (int sign : new int[] {MIN, -256, -1, 256, 65536 + 65, MAX}) {
            CHECK.refused(call + " of " + sign, Made::filled, x -> asked.apply(x, sign), Check.ARGUMENT);
        }
        for (int sign : new int[] {0, 255}) {
            Object answer = Check.outcome(() -> asked.apply(new Signkinds(), sign));
            CHECK.same(call + " of " + sign + " throws", answer.toString().startsWith("throws."), false);
        }
    }

    private static void signs() {
        for (int sign : new int[] {0, 255}) {
            Signkinds x = new Signkinds();
            CHECK.same("lay() of " + sign, x.lay(0, sign, NONE, NONE, NONE), 1);
            CHECK.same("at() of " + sign, x.at(0, 0), sign);
            CHECK.same("lower() of " + sign, x.lower(sign, true), sign);
        }
        CHECK.refused("lay() of 256", Made::filled, x -> x.lay(0, 256, NONE, NONE, NONE), Check.ARGUMENT);
        CHECK.refused("lay() of -2", Made::filled, x -> x.lay(0, -2, NONE, NONE, NONE), Check.ARGUMENT);
        CHECK.refused("kinds(-1)", Made::filled, x -> x.kinds(-1), Check.ARGUMENT);
        CHECK.refused("kinds(256)", Made::filled, x -> x.kinds(256), Check.ARGUMENT);
    }

    /** All calls that ask for a kind tell the same of each sign. */
    private static void kind(int kind, int[] edges, BiFunction<Signkinds, Integer, Boolean> asked) {
        for (int sign = 0; sign <= 255; sign++) {
            boolean due = isIn(sign, edges);
            String told = "the kind " + kind + " of " + sign + ", asked by ";
            Signkinds x = new Signkinds();
            x.lay(0, sign, NONE, NONE, NONE);
            CHECK.same(told + "its name", asked.apply(x, sign), due);
            CHECK.same(told + "kinds()", (x.kinds(sign) >> kind & 1) == 1, due);
            CHECK.same(told + "count()", x.count(0, kind), due ? 1 : 0);
            CHECK.same(told + "first()", x.first(0, kind, 0), due ? 0 : NONE);
            CHECK.same(told + "last()", x.last(0, kind), due ? 0 : NONE);
            CHECK.same(told + "sieve()", x.sieve(0, kind, true), due ? 0 : 1);
        }
    }

    /** The first and the last one of each run are of it; the ones ahead and behind are not. */
    private static void edges(int[] edges, BiFunction<Signkinds, Integer, Boolean> asked) {
        Signkinds x = new Signkinds();
        for (int k = 0; k < edges.length; k += 2) {
            CHECK.same("the first one, " + edges[k], asked.apply(x, edges[k]), true);
            CHECK.same("the last one, " + edges[k + 1], asked.apply(x, edges[k + 1]), true);
            CHECK.same("the one ahead of " + edges[k], asked.apply(x, edges[k] - 1), false);
            if (edges[k + 1] < 255) {
                CHECK.same("the one behind " + edges[k + 1], asked.apply(x, edges[k + 1] + 1), false);
            }
        }
    }

    private static void kinds() {
        int[] signs = {0, 8, 9, 13, 14, 27, 28, 32, 33, 47, 48, 57, 58, 64, 65, 90, 91, 96, 97, 122, 123, 169, 170, 171,
            180, 181, 182, 185, 186, 187, 191, 192, 214, 215, 216, 222, 223, 246, 247, 248, 255};
        int[] due = {0, 0, 8, 8, 0, 0, 8, 8, 0, 0, 5, 5, 0, 0, 22, 22, 0, 0, 6, 6, 0, 0, 6, 0,
            0, 6, 0, 0, 6, 0, 0, 22, 22, 0, 22, 22, 6, 6, 0, 6, 6};
        Signkinds x = new Signkinds();
        for (int k = 0; k < signs.length; k++) {
            CHECK.same("kinds(" + signs[k] + ")", x.kinds(signs[k]), due[k]);
        }
        for (int sign = 0; sign <= 255; sign++) {
            int sum = isIn(sign, DIGITS) ? 1 : 0;
            sum += isIn(sign, LETTERS) ? 2 : 0;
            sum += isIn(sign, LETTERS) || isIn(sign, DIGITS) ? 4 : 0;
            sum += isIn(sign, WHITES) ? 8 : 0;
            sum += isIn(sign, GREATS) ? 16 : 0;
            CHECK.same("kinds(" + sign + ")", new Signkinds().kinds(sign), sum);
        }
    }

    private static int upperDue(int sign) {
        if (sign == 181) {
            return 924;
        }
        if (sign == 255) {
            return 376;
        }
        return isIn(sign, SMALLS_OF_GREATS) ? sign - 32 : sign;
    }

    private static int valueDue(int sign) {
        switch (sign) {
            case 178: return 2;
            case 179: return 3;
            case 185: return 1;
            case 188: case 189: case 190: return -2;
            default: return plainValueDue(sign);
        }
    }

    private static int plainValueDue(int sign) {
        if (sign >= 48 && sign <= 57) {
            return sign - 48;
        }
        if (sign >= 65 && sign <= 90) {
            return sign - 55;
        }
        return sign >= 97 && sign <= 122 ? sign - 87 : NONE;
    }

    private static void upper() {
        int[] signs = {0, 64, 65, 90, 96, 97, 122, 123, 170, 180, 181, 182, 186, 192, 215, 223, 224, 246, 247, 248, 254,
            255};
        int[] due = {0, 64, 65, 90, 96, 65, 90, 123, 170, 180, 924, 182, 186, 192, 215, 223, 192, 214, 247, 216, 222,
            376};
        Signkinds x = new Signkinds();
        for (int k = 0; k < signs.length; k++) {
            CHECK.same("upper(" + signs[k] + ", true)", x.upper(signs[k], true), due[k]);
        }
    }

    private static void upperAsBoth() {
        for (int sign = 0; sign <= 255; sign++) {
            CHECK.same("upper(" + sign + ", true)", new Signkinds().upper(sign, true), upperDue(sign));
            CHECK.same("upper(" + sign + ", false)", new Signkinds().upper(sign, false), upperDue(sign));
        }
    }

    private static void lower() {
        int[] signs = {0, 64, 65, 90, 91, 97, 191, 192, 214, 215, 216, 222, 223, 224, 254, 255};
        int[] due = {0, 64, 97, 122, 91, 97, 191, 224, 246, 215, 248, 254, 223, 224, 254, 255};
        Signkinds x = new Signkinds();
        for (int k = 0; k < signs.length; k++) {
            CHECK.same("lower(" + signs[k] + ", true)", x.lower(signs[k], true), due[k]);
        }
    }

    private static void lowerAsBoth() {
        for (int sign = 0; sign <= 255; sign++) {
            int due = isIn(sign, GREATS) ? sign + 32 : sign;
            CHECK.same("lower(" + sign + ", true)", new Signkinds().lower(sign, true), due);
            CHECK.same("lower(" + sign + ", false)", new Signkinds().lower(sign, false), due);
        }
    }

    private static void value() {
        int[] signs = {0, 47, 48, 57, 58, 64, 65, 90, 91, 96, 97, 122, 123, 177, 178, 179, 180, 184, 185, 186, 187, 188,
            189, 190, 191, 255};
        int[] due = {-1, -1, 0, 9, -1, -1, 10, 35, -1, -1, 10, 35, -1, -1, 2, 3, -1, -1, 1, -1, -1, -2, -2, -2, -1, -1};
        Signkinds x = new Signkinds();
        for (int k = 0; k < signs.length; k++) {
            CHECK.same("value(" + signs[k] + ", true)", x.value(signs[k], true), due[k]);
        }
    }

    private static void valueAsBoth() {
        for (int sign = 0; sign <= 255; sign++) {
            CHECK.same("value(" + sign + ", true)", new Signkinds().value(sign, true), valueDue(sign));
            CHECK.same("value(" + sign + ", false)", new Signkinds().value(sign, false), valueDue(sign));
        }
    }

    private static void radix() {
        for (int radix : new int[] {MIN, -2, -1, 0, 1, 37, 38, MAX}) {
            CHECK.same("digit(0, " + radix + ")", new Signkinds().digit(0, radix), 0);
            CHECK.same("number(48, " + radix + ", true)", new Signkinds().number(48, radix, true), NONE);
            CHECK.same("sum(0, " + radix + ")", Made.row("1a").sum(0, radix), 0);
            CHECK.refused("told(0, " + radix + ")", Made::filled, x -> x.told(0, radix), Check.ARGUMENT);
            CHECK.refused("write(0, 0, " + radix + ")", Made::filled, x -> x.write(0, 0, radix), Check.ARGUMENT);
        }
        for (int radix : new int[] {2, 36}) {
            CHECK.same("digit(0, " + radix + ")", new Signkinds().digit(0, radix), 48);
            CHECK.same("number(48, " + radix + ", true)", new Signkinds().number(48, radix, true), 0);
            CHECK.same("sum(0, " + radix + ")", Made.row("01").sum(0, radix), 1);
            CHECK.same("told(0, " + radix + ")", Made.row("01").told(0, radix), 1);
            CHECK.same("write(0, 0, " + radix + ")", new Signkinds().write(0, 0, radix), 1);
        }
    }

    private static void number() {
        int[][] cases = {{48, 2, 0}, {49, 2, 1}, {50, 2, NONE}, {57, 10, 9}, {57, 9, NONE}, {65, 11, 10}, {65, 10, NONE},
            {70, 16, 15}, {71, 16, NONE}, {90, 36, 35}, {90, 35, NONE}, {97, 11, 10}, {97, 10, NONE}, {102, 16, 15},
            {103, 16, NONE}, {122, 36, 35}, {122, 35, NONE}, {47, 36, NONE}, {58, 36, NONE}, {64, 36, NONE},
            {91, 36, NONE}, {96, 36, NONE}, {123, 36, NONE}, {178, 36, NONE}, {179, 10, NONE}, {185, 36, NONE},
            {188, 36, NONE}, {48, 1, NONE}, {48, 37, NONE}, {122, 37, NONE}, {57, 37, NONE}, {48, 0, NONE}};
        Signkinds x = new Signkinds();
        for (int[] one : cases) {
            CHECK.same("number(" + one[0] + ", " + one[1] + ", true)", x.number(one[0], one[1], true), one[2]);
        }
    }

    private static void numberAsBoth() {
        for (int sign = 0; sign <= 255; sign++) {
            Signkinds x = new Signkinds();
            for (int radix = -1; radix <= 40; radix++) {
                int value = plainValueDue(sign);
                int due = radix >= 2 && radix <= 36 && value < radix ? value : NONE;
                CHECK.same("number(" + sign + ", " + radix + ", true)", x.number(sign, radix, true), due);
                CHECK.same("number(" + sign + ", " + radix + ", false)", x.number(sign, radix, false), due);
            }
        }
    }

    private static void digit() {
        int[][] cases = {{-1, 2, 0}, {0, 2, 48}, {1, 2, 49}, {2, 2, 0}, {9, 10, 57}, {10, 10, 0}, {9, 9, 0}, {10, 11, 97},
            {11, 11, 0}, {15, 16, 102}, {16, 16, 0}, {34, 35, 121}, {35, 35, 0}, {35, 36, 122}, {36, 36, 0}, {-1, 36, 0},
            {0, 36, 48}, {9, 36, 57}, {10, 36, 97}, {0, 1, 0}, {0, 37, 0}, {35, 37, 0}, {36, 37, 0}, {MAX, 36, 0},
            {MIN, 36, 0}, {0, MIN, 0}, {0, MAX, 0}, {MAX, MAX, 0}, {-1, -1, 0}};
        Signkinds x = new Signkinds();
        for (int[] one : cases) {
            CHECK.same("digit(" + one[0] + ", " + one[1] + ")", x.digit(one[0], one[1]), one[2]);
        }
    }

    private static void digitOfAny() {
        String digits = "0123456789abcdefghijklmnopqrstuvwxyz";
        for (int radix = -1; radix <= 40; radix++) {
            Signkinds x = new Signkinds();
            for (int number = -3; number <= 40; number++) {
                boolean hasOne = radix >= 2 && radix <= 36 && number >= 0 && number < radix;
                int due = hasOne ? digits.charAt(number) : 0;
                CHECK.same("digit(" + number + ", " + radix + ")", x.digit(number, radix), due);
            }
        }
    }
}
