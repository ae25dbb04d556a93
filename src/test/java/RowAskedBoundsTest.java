import java.io.IOException;
import java.math.BigInteger;
import java.util.function.BiFunction;

/** Each sentence of promises 31 to 44, what rows are asked for, at its edges. */
public final class RowAskedBoundsTest {
    private static final Check CHECK = new Check("RowAskedBoundsTest");
    private static final String NO_ROW = "Throws `IndexOutOfBoundsException` if there is no such ROW";
    private static final String NO_ROW_OF_BOTH = NO_ROW + " (both)";
    private static final String NO_KIND = "Throws `IllegalArgumentException` if kind is not 0 to 4";
    private static final int NONE = -1;
    private static final int NOT_DONE = -9;
    private static final int MIN = Integer.MIN_VALUE;
    private static final int MAX = Integer.MAX_VALUE;
    private static final int[] NO_ROWS = {MIN, -2, -1, 4, 5, MAX};
    private static final int[] NO_KINDS = {MIN, -2, -1, 5, 6, MAX};

    public static void main(String[] args) throws IOException {
        Sentences said = new Sentences(CHECK).ofPromises(31, 44);
        placesAndKinds(said);
        textsAndNumbers(said);
        wordsAndTwoRows(said);
        said.end();
    }

    private static void placesAndKinds(Sentences said) {
        said.promises(31, "Returns how many SIGNS it has.", RowAskedBoundsTest::length);
        said.promises(31, NO_ROW, () -> noRow("length", Signkinds::length));
        said.promises(32, "Returns the SIGN there.", RowAskedBoundsTest::at);
        said.promises(32, NO_ROW + ", or place of it", RowAskedBoundsTest::noPlace);
        said.promises(33, "Returns how many SIGNS of that KIND it has.", RowAskedBoundsTest::count);
        said.promises(33, NO_ROW, () -> noRow("count", (x, row) -> x.count(row, 0)));
        said.promises(33, NO_KIND, () -> noKind("count", (x, row, kind) -> x.count(row, kind)));
        said.promises(34, "Returns the first place from that one on with a SIGN of that KIND; NONE without one.",
                RowAskedBoundsTest::first);
        said.promises(34, NO_ROW, () -> {
            noRow("first", (x, row) -> x.first(row, 0, 0));
            noRow("first from below 0", (x, row) -> x.first(row, 0, -1));
        });
        said.promises(34, "Throws `IllegalArgumentException` if kind is not 0 to 4, or from is below 0", () -> {
            noKind("first", (x, row, kind) -> x.first(row, kind, 0));
            firstFromBelow();
        });
        said.promises(35, "Returns the last place with a SIGN of that KIND; NONE without one.", RowAskedBoundsTest::last);
        said.promises(35, NO_ROW, () -> noRow("last", (x, row) -> x.last(row, 0)));
        said.promises(35, NO_KIND, () -> noKind("last", (x, row, kind) -> x.last(row, kind)));
    }

    private static void textsAndNumbers(Sentences said) {
        said.promises(36, "Returns the FORMS of its SIGNS, one behind the other.", RowAskedBoundsTest::forms);
        said.promises(36, NO_ROW, () -> noRow("forms", Signkinds::forms));
        said.promises(37, "Returns the SIGNS into which it would be SPELLED, as a text (\"\" without SIGNS).",
                RowAskedBoundsTest::spelled);
        said.promises(37, NO_ROW, () -> noRow("spelled", Signkinds::spelled));
        said.promises(38, "Returns what it is, told as a number in that RADIX; -9 if it can not be done.",
                RowAskedBoundsTest::told);
        said.promises(38, NO_ROW, () -> {
            noRow("told", (x, row) -> x.told(row, 10));
            noRow("told in no radix", (x, row) -> x.told(row, 37));
        });
        said.promises(38, "Throws `IllegalArgumentException` if radix is not 2 to 36", RowAskedBoundsTest::toldInNoRadix);
        said.promises(39, "Returns the sum of the numbers in that RADIX of all SIGNS that have one.",
                RowAskedBoundsTest::sum);
        said.promises(39, NO_ROW, () -> {
            noRow("sum", (x, row) -> x.sum(row, 10));
            noRow("sum in no radix", (x, row) -> x.sum(row, 0));
        });
        said.promises(40, "Returns the sum of all VALUES that are not below 0.", RowAskedBoundsTest::values);
        said.promises(40, NO_ROW, () -> noRow("values", Signkinds::values));
    }

    private static void wordsAndTwoRows(Sentences said) {
        said.promises(41, "Returns how many WORDS it has.", RowAskedBoundsTest::words);
        said.promises(41, NO_ROW, () -> noRow("words", Signkinds::words));
        said.promises(42, "Returns that.", RowAskedBoundsTest::word);
        said.promises(42, NO_ROW + ", or WORD of it", RowAskedBoundsTest::noWord);
        said.promises(43, "Returns whether both are ALIKE.", RowAskedBoundsTest::isAlike);
        said.promises(43, NO_ROW_OF_BOTH, () -> noRowOfBoth("isAlike", Signkinds::isAlike));
        said.promises(44, "Returns -1 if the first one is ahead in ORDER, 1 if the other one is, 0 if they are the same.",
                RowAskedBoundsTest::order);
        said.promises(44, NO_ROW_OF_BOTH, () -> noRowOfBoth("order", Signkinds::order));
    }

    private static void noRow(String call, BiFunction<Signkinds, Integer, Object> asked) {
        for (int row : NO_ROWS) {
            CHECK.refused(call + " of the row " + row, Made::filled, x -> asked.apply(x, row), Check.INDEX);
        }
        for (int row = 0; row < 4; row++) {
            int there = row;
            Object answer = Check.outcome(() -> asked.apply(Made.filled(), there));
            CHECK.same(call + " of the row " + row + " finds no row", answer.equals(Check.INDEX), false);
        }
    }

    /** A call of two numbers. */
    private interface OfTwo {
        Object of(Signkinds x, int one, int other);
    }

    private static void noRowOfBoth(String call, OfTwo asked) {
        for (int row : NO_ROWS) {
            CHECK.refused(call + " of " + row + " and 0", Made::filled, x -> asked.of(x, row, 0), Check.INDEX);
            CHECK.refused(call + " of 0 and " + row, Made::filled, x -> asked.of(x, 0, row), Check.INDEX);
            CHECK.refused(call + " of " + row + " twice", Made::filled, x -> asked.of(x, row, row), Check.INDEX);
        }
        for (int row = 0; row < 4; row++) {
            int one = row;
            Object answer = Check.outcome(() -> asked.of(Made.filled(), one, 3 - one));
            CHECK.same(call + " of " + one + " and " + (3 - one) + " finds no row", answer.equals(Check.INDEX), false);
        }
    }

    /** No kind throws, also of a row without signs; where there is no such row either, that is told first. */
    private static void noKind(String call, OfTwo asked) {
        for (int kind : NO_KINDS) {
            CHECK.refused(call + " by the kind " + kind, Made::filled, x -> asked.of(x, 0, kind), Check.ARGUMENT);
            CHECK.refused(call + " by the kind " + kind + " of none", Signkinds::new, x -> asked.of(x, 0, kind),
                    Check.ARGUMENT);
            CHECK.refused(call + " by the kind " + kind + " of the row 4", Made::filled, x -> asked.of(x, 4, kind),
                    Check.INDEX);
            CHECK.refused(call + " by the kind " + kind + " of the row -1", Made::filled, x -> asked.of(x, -1, kind),
                    Check.INDEX);
        }
        for (int kind = 0; kind < 5; kind++) {
            int least = kind;
            Object answer = Check.outcome(() -> asked.of(Made.filled(), 0, least));
            CHECK.same(call + " by the kind " + kind + " tells a number", answer instanceof Integer, true);
        }
    }

    private static void length() {
        Signkinds x = new Signkinds();
        for (int many = 0; many < 40; many++) {
            CHECK.same("length(0)", x.length(0), many);
            CHECK.same("length(3)", x.length(3), 0);
            x.lay(0, 65, NONE, NONE, NONE);
        }
        CHECK.same("length(0) of a full one", x.length(0), 40);
        x.drop(0, 40);
        CHECK.same("length(0) of one that is empty again", x.length(0), 0);
    }

    private static void at() {
        Signkinds x = Made.row("0123456789".repeat(4));
        for (int place = 0; place < 40; place++) {
            CHECK.same("at(0, " + place + ")", x.at(0, place), 48 + place % 10);
        }
        Signkinds two = Made.row("\0\u00ff");
        CHECK.same("at(0, 0)", two.at(0, 0), 0);
        CHECK.same("at(0, 1)", two.at(0, 1), 255);
    }

    private static void noPlace() {
        noRow("at", (x, row) -> x.at(row, 0));
        noRow("at no place", (x, row) -> row < 0 || row > 3 ? x.at(row, -1) : x.at(row, 0));
        for (int many : new int[] {0, 1, 39, 40}) {
            for (int place : new int[] {MIN, -2, -1, many, many + 1, MAX}) {
                CHECK.refused("at(0, " + place + ") of " + many, () -> Made.row("a".repeat(many)), x -> x.at(0, place),
                        Check.INDEX);
            }
        }
        CHECK.refused("at(0, 3) where there was one", () -> dropped("abcd", 1), x -> x.at(0, 3), Check.INDEX);
        CHECK.same("at(0, 2) behind which there was one", dropped("abcd", 1).at(0, 2), 99);
    }

    private static Signkinds dropped(String signs, int many) {
        Signkinds x = Made.row(signs);
        x.drop(0, many);
        return x;
    }

    private static void count() {
        String[] rows = {"1", "a", "a", " ", "A"};
        String[] others = {"a", "1", " ", "a", "a"};
        for (int kind = 0; kind < 5; kind++) {
            CHECK.same("count(0, " + kind + ") of none", new Signkinds().count(0, kind), 0);
            CHECK.same("count(0, " + kind + ") of 40", Made.row(rows[kind].repeat(40)).count(0, kind), 40);
            CHECK.same("count(0, " + kind + ") of 40 others", Made.row(others[kind].repeat(40)).count(0, kind), 0);
            String first = rows[kind] + others[kind].repeat(39);
            CHECK.same("count(0, " + kind + ") of the first", Made.row(first).count(0, kind), 1);
            String last = others[kind].repeat(39) + rows[kind];
            CHECK.same("count(0, " + kind + ") of the last", Made.row(last).count(0, kind), 1);
            CHECK.same("count(0, " + kind + ") of what went", dropped(last, 1).count(0, kind), 0);
        }
    }

    private static void first() {
        Signkinds x = Made.row("1a1");
        int[] froms = {0, 1, 2, 3, 4, 39, 40, 41, MAX};
        int[] due = {0, 2, 2, NONE, NONE, NONE, NONE, NONE, NONE};
        for (int k = 0; k < froms.length; k++) {
            CHECK.same("first(0, 0, " + froms[k] + ")", x.first(0, 0, froms[k]), due[k]);
        }
        CHECK.same("first(1, 0, 0) of none", x.first(1, 0, 0), NONE);
        CHECK.same("first(0, 3, 0) without one", x.first(0, 3, 0), NONE);
        Signkinds full = Made.row("a".repeat(39) + "1");
        CHECK.same("first(0, 0, 0) of 40", full.first(0, 0, 0), 39);
        CHECK.same("first(0, 0, 39) of 40", full.first(0, 0, 39), 39);
        CHECK.same("first(0, 0, 40) of 40", full.first(0, 0, 40), NONE);
        CHECK.same("first(0, 0, 0) of what went", dropped("aa1", 1).first(0, 0, 0), NONE);
    }

    private static void firstFromBelow() {
        for (int from : new int[] {MIN, -9, -2, -1}) {
            CHECK.refused("first(0, 0, " + from + ")", Made::filled, x -> x.first(0, 0, from), Check.ARGUMENT);
            CHECK.refused("first(0, 0, " + from + ") of none", Signkinds::new, x -> x.first(0, 0, from), Check.ARGUMENT);
            CHECK.refused("first(0, 5, " + from + ")", Made::filled, x -> x.first(0, 5, from), Check.ARGUMENT);
            CHECK.refused("first(4, 5, " + from + ")", Made::filled, x -> x.first(4, 5, from), Check.INDEX);
        }
        CHECK.same("first(0, 0, 0)", Made.row("1").first(0, 0, 0), 0);
    }

    private static void last() {
        String[] rows = {"", "1", "a", "1a", "a1", "1a1", "1".repeat(40), "1" + "a".repeat(39), "a".repeat(39) + "1"};
        int[] due = {NONE, 0, NONE, 0, 1, 2, 39, 0, 39};
        for (int k = 0; k < rows.length; k++) {
            CHECK.same("last(0, 0) of " + rows[k], Made.row(rows[k]).last(0, 0), due[k]);
        }
        CHECK.same("last(0, 0) of what went", dropped("1a1", 1).last(0, 0), 0);
    }

    private static void forms() {
        CHECK.same("forms(0) of none", new Signkinds().forms(0), "");
        CHECK.same("forms(0)", Made.row("5Bb \0").forms(0), "dulw-");
        CHECK.same("forms(0), the other way round", Made.row("\0 bB5").forms(0), "-wlud");
        CHECK.same("forms(0) of 40", Made.row("5B".repeat(20)).forms(0), "du".repeat(20));
        CHECK.same("forms(0) of 39", Made.row("b".repeat(39)).forms(0), "l".repeat(39));
    }

    private static void spelled() {
        CHECK.same("spelled(0) of none", new Signkinds().spelled(0), "");
        CHECK.same("spelled(0)", Made.row("\0\u000f\u0010\u00ff").spelled(0), "000f10ff");
        // Behind 20 signs the row could not be spelled into another one, but still is told as a text.
        for (int many : new int[] {1, 20, 21, 39, 40}) {
            CHECK.same("spelled(0) of " + many, Made.row("z".repeat(many)).spelled(0), "7a".repeat(many));
        }
    }

    private static void told() {
        for (int radix = 2; radix <= 36; radix++) {
            toldIn(radix);
        }
        BigInteger rest = BigInteger.valueOf(1000003);
        for (int many = 1; many <= 40; many++) {
            int due = new BigInteger("z".repeat(many), 36).mod(rest).intValue();
            CHECK.same("told of " + many, Made.row("Z".repeat(many)).told(0, 36), due);
        }
    }

    private static void toldIn(int radix) {
        String greatest = Integer.toString(radix - 1, radix);
        CHECK.same("told of " + greatest, Made.row(greatest).told(0, radix), radix - 1);
        CHECK.same("told of it twice", Made.row(greatest + greatest).told(0, radix), radix * radix - 1);
        CHECK.same("told of 10 in " + radix, Made.row("10").told(0, radix), radix);
        CHECK.refused("told of none in " + radix, Signkinds::new, x -> x.told(0, radix), NOT_DONE);
        String tooGreat = radix < 36 ? Integer.toString(radix, 36) : "-";
        CHECK.refused("told of " + tooGreat, () -> Made.row(tooGreat), x -> x.told(0, radix), NOT_DONE);
        CHECK.refused("told of it behind 39", () -> Made.row("0".repeat(39) + tooGreat), x -> x.told(0, radix), NOT_DONE);
    }

    private static void toldInNoRadix() {
        for (int radix : new int[] {MIN, -2, -1, 0, 1, 37, 38, MAX}) {
            CHECK.refused("told(0, " + radix + ")", () -> Made.row("0"), x -> x.told(0, radix), Check.ARGUMENT);
            CHECK.refused("told(0, " + radix + ") of none", Signkinds::new, x -> x.told(0, radix), Check.ARGUMENT);
            CHECK.refused("told(0, " + radix + ") of -", () -> Made.row("-"), x -> x.told(0, radix), Check.ARGUMENT);
        }
        CHECK.same("told(0, 2)", Made.row("10").told(0, 2), 2);
        CHECK.same("told(0, 36)", Made.row("10").told(0, 36), 36);
    }

    private static void sum() {
        Signkinds x = Made.row("0189aAzZ- \u00b2\u00b9\u00bc");
        int[] radices = {MIN, -1, 0, 1, 2, 8, 9, 10, 11, 16, 35, 36, 37, MAX};
        int[] due = {0, 0, 0, 0, 1, 1, 9, 18, 38, 38, 38, 108, 0, 0};
        for (int k = 0; k < radices.length; k++) {
            CHECK.same("sum(0, " + radices[k] + ")", x.sum(0, radices[k]), due[k]);
            CHECK.same("sum(1, " + radices[k] + ") of none", x.sum(1, radices[k]), 0);
        }
        CHECK.same("sum(0, 36) of 40", Made.row("z".repeat(40)).sum(0, 36), 1400);
        CHECK.same("sum(0, 36) of what went", dropped("1z", 1).sum(0, 36), 1);
    }

    private static void values() {
        String[] rows = {"", "0", "9", "a", "Z", "-", "\u00b2", "\u00b3", "\u00b9", "\u00bc", "\u00bd", "\u00be", "1\u00bc1",
            "--1", "z".repeat(40), "\u00bc".repeat(40)};
        int[] due = {0, 0, 9, 10, 35, 0, 2, 3, 1, 0, 0, 0, 2, 1, 1400, 0};
        for (int k = 0; k < rows.length; k++) {
            CHECK.same("values(0) of " + rows[k], Made.row(rows[k]).values(0), due[k]);
        }
        CHECK.same("values(0) of what went", dropped("1z", 1).values(0), 1);
    }

    private static void words() {
        String[] rows = {"", "-", "a", "-a", "a-", "a-a", "aa", "a".repeat(40), "a-".repeat(20), "-a".repeat(20),
            "-".repeat(39) + "a", "a" + "-".repeat(39), "5", "5a", "a5", "5-5"};
        int[] due = {0, 0, 1, 1, 1, 2, 1, 1, 20, 20, 1, 1, 1, 1, 1, 2};
        for (int k = 0; k < rows.length; k++) {
            CHECK.same("words(0) of " + rows[k], Made.row(rows[k]).words(0), due[k]);
        }
        CHECK.same("words(0) of what went", dropped("a-a", 1).words(0), 1);
    }

    private static void word() {
        Signkinds many = Made.row("a-".repeat(20));
        for (int k = 0; k < 20; k++) {
            CHECK.same("word(0, " + k + ", false)", many.word(0, k, false), 2 * k);
            CHECK.same("word(0, " + k + ", true)", many.word(0, k, true), 1);
        }
        String[] rows = {"a", "a".repeat(40), "-".repeat(39) + "a", "-" + "a".repeat(39), "a".repeat(39) + "-"};
        int[] places = {0, 0, 39, 1, 0};
        int[] lengths = {1, 40, 1, 39, 39};
        for (int k = 0; k < rows.length; k++) {
            CHECK.same("the first place in " + rows[k], Made.row(rows[k]).word(0, 0, false), places[k]);
            CHECK.same("the length in " + rows[k], Made.row(rows[k]).word(0, 0, true), lengths[k]);
        }
        CHECK.same("the length without what went", dropped("abc", 1).word(0, 0, true), 2);
    }

    private static void noWord() {
        noRow("word", (x, row) -> x.word(row, 0, true));
        String[] rows = {"", "-", "a", "a-b", "a".repeat(40), "a-".repeat(20), "-a".repeat(20)};
        int[] many = {0, 0, 1, 2, 1, 20, 20};
        for (int k = 0; k < rows.length; k++) {
            String signs = rows[k];
            for (int word : new int[] {MIN, -2, -1, many[k], many[k] + 1, MAX}) {
                for (boolean isLength : new boolean[] {false, true}) {
                    CHECK.refused("word(0, " + word + ", " + isLength + ") of " + signs, () -> Made.row(signs),
                            x -> x.word(0, word, isLength), Check.INDEX);
                }
            }
        }
    }

    private static void isAlike() {
        CHECK.same("none and none", pair("", "").isAlike(0, 1), true);
        CHECK.same("none and one", pair("", "a").isAlike(0, 1), false);
        CHECK.same("one and none", pair("a", "").isAlike(0, 1), false);
        CHECK.same("40 and 40", pair("a".repeat(40), "A".repeat(40)).isAlike(0, 1), true);
        CHECK.same("40 and 39", pair("a".repeat(40), "A".repeat(39)).isAlike(0, 1), false);
        CHECK.same("the last place alone", pair("a".repeat(40), "A".repeat(39) + "B").isAlike(0, 1), false);
        CHECK.same("the first place alone", pair("a".repeat(40), "B" + "A".repeat(39)).isAlike(0, 1), false);
        CHECK.same("a row and itself", pair("ab", "").isAlike(0, 0), true);
        for (int sign = 0; sign <= 255; sign++) {
            Signkinds x = new Signkinds();
            x.lay(0, sign, NONE, NONE, NONE);
            x.copy(0, 1);
            x.sink(1);
            CHECK.same(sign + " and its lower one", x.isAlike(0, 1), true);
        }
    }

    private static Signkinds pair(String one, String other) {
        return Made.with(Made.row(one), 1, other);
    }

    private static void order() {
        String[][] ahead = {{"", "\0"}, {"\0", "\u00ff"}, {"a", "b"}, {"a", "aa"}, {"ab", "b"}, {"a".repeat(39), "a".repeat(40)},
            {"a".repeat(40), "a".repeat(39) + "b"}, {"a".repeat(40), "b"}, {"A", "a"}};
        for (String[] rows : ahead) {
            CHECK.same("order of " + String.join(", ", rows), pair(rows[0], rows[1]).order(0, 1), -1);
            CHECK.same("the other way round", pair(rows[0], rows[1]).order(1, 0), 1);
            CHECK.same("the same one", pair(rows[0], rows[0]).order(0, 1), 0);
            CHECK.same("the same row", pair(rows[0], rows[1]).order(1, 1), 0);
        }
        CHECK.same("none and none", pair("", "").order(0, 1), 0);
        CHECK.same("what went is not looked at", dropped("ab", 1).order(0, 1), 1);
    }
}
