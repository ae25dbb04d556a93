import java.io.IOException;
import java.math.BigInteger;

/** Each sentence of part 2 of the document, "Rows", at its edges. */
public final class RowBoundsTest {
    private static final Check CHECK = new Check("RowBoundsTest");
    private static final int NONE = -1;
    private static final int NOT_DONE = -9;

    public static void main(String[] args) throws IOException {
        Sentences said = new Sentences(CHECK).ofPart("2. Rows", "3. Codes, units, tracks");
        said.says("ROWS are 0 to 3; each has SIGNS at the places from 0 on, at most 40 (none at first).",
                RowBoundsTest::rows);
        said.says("The FORM of a SIGN is one of five letters: \"d\" for a DIGIT, otherwise \"u\" for a GREAT one, otherwise"
                + " \"l\" for a LETTER, otherwise \"w\" for a WHITE one, otherwise \"-\".", RowBoundsTest::form);
        said.says("To RAISE a ROW: each SIGN becomes its UPPER, if that is a SIGN (otherwise it stays); to LOWER it: each"
                + " becomes its LOWER.", RowBoundsTest::raiseAndLower);
        said.says("To SIEVE it by a KIND: only those stay that are of it (or only those that are not).",
                RowBoundsTest::sieve);
        said.says("To STRIP it: WHITE ones at its begin and at its end go, till there is another one (or none).",
                RowBoundsTest::strip);
        said.says("To TURN it: the last one stands first, and so on.", RowBoundsTest::turn);
        said.says("WORDS of a ROW: LETTERS OR DIGITS one behind the other, with no such one ahead of the first and behind"
                + " the last.", RowBoundsTest::words);
        said.says("Two ROWS are ALIKE, if they are as long, and at each place the SIGNS of both have the same UPPER.",
                RowBoundsTest::alike);
        said.says("The ORDER of two ROWS: by the first place at which they are not the same the smaller SIGN is ahead;"
                + " without such place the shorter one is.", RowBoundsTest::order);
        said.says("To WRITE a number (0 to 999999) in a RADIX: its DIGITS are laid behind a ROW, the one of the greatest"
                + " power first, without one of 0 ahead (but one of 0 for the number 0).", RowBoundsTest::write);
        said.says("A ROW told as a number in a RADIX: beginning with 0, SIGN by SIGN, times the RADIX and the number of the"
                + " SIGN more, of that the rest by 1000003 each time; it can not be done with a SIGN that has no number, or"
                + " without SIGNS.", RowBoundsTest::told);
        said.says("To SPELL a ROW into another one: that becomes, for each SIGN, the DIGIT in the RADIX 16 of the SIGN / 16,"
                + " then that of its rest by 16.", RowBoundsTest::spell);
        said.says("To READ a ROW into another one: that becomes, for each two SIGNS of the first, 16 times the number of the"
                + " one in the RADIX 16 and that of the other; it can not be done, if there is an odd number of SIGNS, or"
                + " one without such a number (one without SIGNS is READ as such a one).", RowBoundsTest::read);
        said.end();
    }

    private static void rows() {
        for (int row = 0; row < 4; row++) {
            Signkinds x = new Signkinds();
            CHECK.same("length(" + row + ") at first", x.length(row), 0);
            Made.with(x, row, "0123456789".repeat(4));
            CHECK.same("length(" + row + ") of a full one", x.length(row), 40);
            CHECK.same("the signs of a full one", Made.signs(x, row), "0123456789".repeat(4));
            for (int other = 0; other < 4; other++) {
                CHECK.same("length(" + other + ") by the row " + row, x.length(other), other == row ? 40 : 0);
            }
            int full = row;
            CHECK.state("a sign more in the row " + row, () -> x.lay(full, 65, NONE, NONE, NONE));
        }
        for (int row : new int[] {-1, 4}) {
            CHECK.refused("length(" + row + ")", Made::filled, x -> x.length(row), Check.INDEX);
        }
    }

    private static char formDue(int sign) {
        if (sign >= 48 && sign <= 57) {
            return 'd';
        }
        if (sign >= 65 && sign <= 90 || sign >= 192 && sign <= 222 && sign != 215) {
            return 'u';
        }
        boolean isAlone = sign == 170 || sign == 181 || sign == 186;
        if (sign >= 97 && sign <= 122 || isAlone || sign >= 223 && sign != 247) {
            return 'l';
        }
        return sign >= 9 && sign <= 13 || sign >= 28 && sign <= 32 ? 'w' : '-';
    }

    private static void form() {
        for (int sign = 0; sign <= 255; sign++) {
            Signkinds x = new Signkinds();
            x.lay(0, sign, NONE, NONE, NONE);
            CHECK.same("forms(0) of " + sign, x.forms(0), String.valueOf(formDue(sign)));
        }
    }

    private static void raiseAndLower() {
        // What would be no sign, 181 and 255, stays when it is raised.
        CHECK.same("raise(0)", raised("`az{\u00b4\u00b5\u00b6\u00df\u00e0\u00f6\u00f7\u00f8\u00fe\u00ff"),
                "`AZ{\u00b4\u00b5\u00b6\u00df\u00c0\u00d6\u00f7\u00d8\u00de\u00ff");
        CHECK.same("raise(0) of great ones", raised("AZ\u00c0\u00d6\u00d7\u00d8\u00de"), "AZ\u00c0\u00d6\u00d7\u00d8\u00de");
        CHECK.same("sink(0)", sunk("@AZ[\u00bf\u00c0\u00d6\u00d7\u00d8\u00de\u00df"),
                "@az[\u00bf\u00e0\u00f6\u00d7\u00f8\u00fe\u00df");
        CHECK.same("sink(0) of small ones", sunk("az\u00b5\u00e0\u00f6\u00f7\u00f8\u00fe\u00ff"),
                "az\u00b5\u00e0\u00f6\u00f7\u00f8\u00fe\u00ff");
        CHECK.same("raise(0) of none", raised(""), "");
        CHECK.same("sink(0) of none", sunk(""), "");
        CHECK.same("raise(0) of 40", raised("b".repeat(40)), "B".repeat(40));
        CHECK.same("sink(0) of 40", sunk("B".repeat(40)), "b".repeat(40));
    }

    private static String raised(String signs) {
        Signkinds x = Made.row(signs);
        x.raise(0);
        return Made.signs(x, 0);
    }

    private static String sunk(String signs) {
        Signkinds x = Made.row(signs);
        x.sink(0);
        return Made.signs(x, 0);
    }

    private static void sieve() {
        // At the begin, in the middle and at the end one of the kind, then one that is not.
        String[] mixed = {"1a2b3", "a1B2c", "a-1 B", " a b ", "AbCdE"};
        String[] stay = {"123", "aBc", "a1B", "   ", "ACE"};
        String[] others = {"ab", "12", "- ", "ab", "bd"};
        for (int kind = 0; kind < 5; kind++) {
            CHECK.same("those of the kind " + kind, sieved(mixed[kind], kind, true), stay[kind]);
            CHECK.same("those not of the kind " + kind, sieved(mixed[kind], kind, false), others[kind]);
            CHECK.same("all are of the kind " + kind, sieved(stay[kind], kind, true), stay[kind]);
            CHECK.same("none is not of the kind " + kind, sieved(stay[kind], kind, false), "");
            CHECK.same("none is of the kind " + kind, sieved(others[kind], kind, true), "");
            CHECK.same("all are not of the kind " + kind, sieved(others[kind], kind, false), others[kind]);
            CHECK.same("there is none, of the kind " + kind, sieved("", kind, true), "");
            CHECK.same("there is none, not of the kind " + kind, sieved("", kind, false), "");
        }
        CHECK.same("a full one", sieved("a1".repeat(20), 0, true), "1".repeat(20));
    }

    private static String sieved(String signs, int kind, boolean is) {
        Signkinds x = Made.row(signs);
        x.sieve(0, kind, is);
        return Made.signs(x, 0);
    }

    private static void strip() {
        String[] signs = {"", " ", "  ", "a", " a", "a ", " a ", "a b", " a b ", "\ta\r", "\u001ca\u001f", "\u000ea\u001b",
            "\ba!", "\u00a0 a \u0085", " ".repeat(40), " ".repeat(39) + "a", "a" + " ".repeat(39), "a".repeat(40)};
        String[] due = {"", "", "", "a", "a", "a", "a", "a b", "a b", "a", "a", "\u000ea\u001b",
            "\ba!", "\u00a0 a \u0085", "", "a", "a", "a".repeat(40)};
        for (int k = 0; k < signs.length; k++) {
            Signkinds x = Made.row(signs[k]);
            CHECK.same("strip(0) of case " + k, x.strip(0), signs[k].length() - due[k].length());
            CHECK.same("the signs of case " + k, Made.signs(x, 0), due[k]);
        }
    }

    private static void turn() {
        String[] signs = {"", "a", "ab", "abc", "abcd", "aab", "0123456789".repeat(4), "x" + "0123456789abc".repeat(3)};
        for (String one : signs) {
            Signkinds x = Made.row(one);
            CHECK.same("turn(0) of " + one, x.turn(0), one.length());
            CHECK.same("the signs of " + one, Made.signs(x, 0), new StringBuilder(one).reverse().toString());
        }
    }

    private static void words() {
        String[] rows = {"", "-", "a", "5", "a5", "-a", "a-", "-a-", "a-b", "a--b", "-a-b-", "\u00b2a\u00b2", "a".repeat(40),
            "-".repeat(40), "a-".repeat(20), "-a".repeat(20), "/0", "9:", "@A", "Z[", "`a", "z{", "\u00d7\u00d6", "\u00f7",
            "5a", "55", "aa", "5-5", "5a5a", "5a".repeat(20)};
        int[] many = {0, 0, 1, 1, 1, 1, 1, 1, 2, 2, 2, 1, 1, 0, 20, 20, 1, 1, 1, 1, 1, 1, 1, 0, 1, 1, 1, 2, 1, 1};
        for (int k = 0; k < rows.length; k++) {
            CHECK.same("words(0) of " + rows[k], Made.row(rows[k]).words(0), many[k]);
        }
        Signkinds x = Made.row("ab-c--def5-5a5");
        int[] places = {0, 3, 6, 11};
        int[] lengths = {2, 1, 4, 3};
        for (int k = 0; k < 4; k++) {
            CHECK.same("the first place of the word " + k, x.word(0, k, false), places[k]);
            CHECK.same("the length of the word " + k, x.word(0, k, true), lengths[k]);
        }
    }

    private static void alike() {
        String[] first = {"", "a", "A", "aB", "\u00e0\u00fe", "\u00ff", "\u00b5", "1 -", "z".repeat(40)};
        String[] alike = {"", "A", "a", "Ab", "\u00c0\u00de", "\u00ff", "\u00b5", "1 -", "Z".repeat(40)};
        String[] unlike = {"a", "", "AA", "bb", "\u00c0\u00df", "\u00df", "m", "1 _", "Z".repeat(39)};
        for (int k = 0; k < first.length; k++) {
            CHECK.same("alike " + k, pair(first[k], alike[k]).isAlike(0, 1), true);
            CHECK.same("unlike " + k, pair(first[k], unlike[k]).isAlike(0, 1), false);
            CHECK.same("unlike, the other way round, " + k, pair(unlike[k], first[k]).isAlike(0, 1), false);
        }
        CHECK.same("not the same at the first place alone", pair("abc", "xbc").isAlike(0, 1), false);
        CHECK.same("not the same at the last place alone", pair("abc", "abx").isAlike(0, 1), false);
        CHECK.same("the greatest place alone", pair("a".repeat(40), "a".repeat(39) + "b").isAlike(0, 1), false);
    }

    private static Signkinds pair(String one, String other) {
        return Made.with(Made.row(one), 1, other);
    }

    private static void order() {
        String[] ahead = {"", "a", "ab", "\0", "A", "a", "a\0", "Ba", "a".repeat(39), "a".repeat(39) + "b", "az"};
        String[] behind = {"\0", "b", "b", "\u00ff", "a", "aa", "a\1", "aB", "a".repeat(40), "a".repeat(39) + "c", "b"};
        for (int k = 0; k < ahead.length; k++) {
            CHECK.same("ahead " + k, pair(ahead[k], behind[k]).order(0, 1), -1);
            CHECK.same("behind " + k, pair(behind[k], ahead[k]).order(0, 1), 1);
            CHECK.same("the same " + k, pair(ahead[k], ahead[k]).order(0, 1), 0);
            CHECK.same("the same row " + k, pair(ahead[k], behind[k]).order(1, 1), 0);
        }
    }

    private static void write() {
        int[][] numbers = {{0, 2}, {0, 10}, {0, 36}, {1, 2}, {1, 36}, {2, 2}, {9, 10}, {10, 10}, {35, 36}, {36, 36},
            {99, 10}, {100, 10}, {101, 10}, {524287, 2}, {524288, 2}, {999998, 10}, {999999, 10}, {999999, 2}, {999999, 36},
            {46655, 36}, {46656, 36}, {100000, 10}, {99999, 10}};
        for (int[] number : numbers) {
            String due = Integer.toString(number[0], number[1]);
            String told = "write(0, " + number[0] + ", " + number[1] + ")";
            Signkinds x = new Signkinds();
            CHECK.same(told, x.write(0, number[0], number[1]), due.length());
            CHECK.same("the signs of " + told, Made.signs(x, 0), due);
            Signkinds y = Made.row("0-");
            y.write(0, number[0], number[1]);
            CHECK.same("the signs behind those of a row, of " + told, Made.signs(y, 0), "0-" + due);
        }
        for (int radix = 2; radix <= 36; radix++) {
            int power = 1;
            while (power * radix <= 999999) {
                power *= radix;
            }
            for (int number : new int[] {power - 1, power}) {
                Signkinds x = new Signkinds();
                x.write(0, number, radix);
                CHECK.same(number + " in the radix " + radix, Made.signs(x, 0), Integer.toString(number, radix));
            }
        }
        CHECK.refused("write(0, -1, 10)", Made::filled, x -> x.write(0, -1, 10), Check.ARGUMENT);
        CHECK.refused("write(0, 1000000, 10)", Made::filled, x -> x.write(0, 1000000, 10), Check.ARGUMENT);
    }

    private static void told() {
        String[] rows = {"0", "1", "00", "10", "1000002", "1000003", "1000004", "2000005", "2000006", "99999999", "0".repeat(40),
            "9".repeat(40)};
        int[] due = {0, 1, 0, 10, 1000002, 0, 1, 1000002, 0, 99999999 % 1000003, 0,
            new BigInteger("9".repeat(40)).mod(BigInteger.valueOf(1000003)).intValue()};
        for (int k = 0; k < rows.length; k++) {
            CHECK.same("told(0, 10) of " + rows[k], Made.row(rows[k]).told(0, 10), due[k]);
        }
        for (int radix = 2; radix <= 36; radix++) {
            String greatest = Integer.toString(radix - 1, radix).repeat(40);
            int rest = new BigInteger(greatest, radix).mod(BigInteger.valueOf(1000003)).intValue();
            CHECK.same("told(0, " + radix + ") of " + greatest, Made.row(greatest).told(0, radix), rest);
        }
        String[] unTold = {"", "a", "1a", "a1", "11a11", " 1", "1-", "\u00b2", "1\u00b9", "/", ":", "1".repeat(39) + "a"};
        for (String one : unTold) {
            CHECK.refused("told(0, 10) of " + one, () -> Made.row(one), x -> x.told(0, 10), NOT_DONE);
        }
        CHECK.same("told(0, 2) of 1", Made.row("1").told(0, 2), 1);
        CHECK.same("told(0, 2) of 2", Made.row("2").told(0, 2), NOT_DONE);
        CHECK.same("told(0, 36) of zZ", Made.row("zZ").told(0, 36), 1295);
        CHECK.same("told(0, 35) of z", Made.row("z").told(0, 35), NOT_DONE);
    }

    private static void spell() {
        for (int sign = 0; sign <= 255; sign++) {
            Signkinds x = Made.with(new Signkinds(), 1, "old one");
            x.lay(0, sign, NONE, NONE, NONE);
            CHECK.same("spell(0, 1) of " + sign, x.spell(0, 1), 2);
            String due = (sign < 16 ? "0" : "") + Integer.toHexString(sign);
            CHECK.same("the signs of " + sign + ", spelled", Made.signs(x, 1), due);
            CHECK.same("its text", x.spelled(0), due);
        }
    }

    private static void read() {
        for (int sign = 0; sign <= 255; sign++) {
            String small = (sign < 16 ? "0" : "") + Integer.toHexString(sign);
            for (String signs : new String[] {small, small.toUpperCase()}) {
                Signkinds x = Made.with(Made.row(signs), 1, "old one");
                CHECK.same("read(0, 1) of " + signs, x.read(0, 1), 1);
                CHECK.same("what " + signs + " is read as", x.at(1, 0), sign);
            }
        }
        Signkinds none = Made.with(new Signkinds(), 1, "old one");
        CHECK.same("read(0, 1) of none", none.read(0, 1), 0);
        CHECK.same("what none is read as", none.length(1), 0);
        CHECK.same("what none was", none.length(0), 0);
        String[] unread = {"0", "000", "0".repeat(39), "0g", "g0", "0G", "0/", "0:", "@0", "0`", "00g0", "000g", "0\u00b2", "  ",
            "0".repeat(39) + "g", "g" + "0".repeat(39)};
        for (String one : unread) {
            CHECK.refused("read(0, 1) of " + one, () -> pair(one, "old one"), x -> x.read(0, 1), NOT_DONE);
        }
    }
}
