/** Promises 20 to 30: each SIGN, the edges, and what is no SIGN; Java's own Character tells what is due. */
public final class SignsTest {
    private static final Check CHECK = new Check("SignsTest");
    private static final int[] NO_SIGNS = {-1, 256, -256, 65536 + 65, Integer.MIN_VALUE, Integer.MAX_VALUE};
    private static final int[] RADICES = {Integer.MIN_VALUE, -1, 0, 1, 2, 3, 8, 9, 10, 11, 15, 16, 17, 35, 36, 37, 256,
        Integer.MAX_VALUE};

    public static void main(String[] args) {
        for (int sign = 0; sign <= 255; sign++) {
            kinds(sign);
            greatAndSmall(sign);
            values(sign);
        }
        digits();
        noSigns();
        saidInTheDocument();
        CHECK.end();
    }

    private static void kinds(int sign) {
        Signkinds x = new Signkinds();
        boolean[] due = {Character.isDigit(sign), Character.isLetter(sign), Character.isLetterOrDigit(sign),
            Character.isWhitespace(sign), Character.isUpperCase(sign)};
        CHECK.same("isDigit(" + sign + ")", x.isDigit(sign), due[0]);
        CHECK.same("isLetter(" + sign + ")", x.isLetter(sign), due[1]);
        CHECK.same("isLetterOrDigit(" + sign + ")", x.isLetterOrDigit(sign), due[2]);
        CHECK.same("isWhite(" + sign + ")", x.isWhite(sign), due[3]);
        CHECK.same("isGreat(" + sign + ")", x.isGreat(sign), due[4]);
        int sum = 0;
        for (int kind = 0; kind < 5; kind++) {
            sum += due[kind] ? 1 << kind : 0;
        }
        CHECK.same("kinds(" + sign + ")", x.kinds(sign), sum);
    }

    private static void greatAndSmall(int sign) {
        Signkinds x = new Signkinds();
        for (boolean isCode : new boolean[] {false, true}) {
            CHECK.same("upper(" + sign + ", " + isCode + ")", x.upper(sign, isCode), Character.toUpperCase(sign));
            CHECK.same("lower(" + sign + ", " + isCode + ")", x.lower(sign, isCode), Character.toLowerCase(sign));
        }
    }

    private static void values(int sign) {
        Signkinds x = new Signkinds();
        for (boolean isCode : new boolean[] {false, true}) {
            CHECK.same("value(" + sign + ", " + isCode + ")", x.value(sign, isCode), Character.getNumericValue(sign));
            for (int radix : RADICES) {
                CHECK.same("number(" + sign + ", " + radix + ", " + isCode + ")", x.number(sign, radix, isCode),
                        Character.digit(sign, radix));
            }
        }
    }

    private static void digits() {
        for (int radix : RADICES) {
            Signkinds x = new Signkinds();
            for (int number = -2; number <= 40; number++) {
                CHECK.same("digit(" + number + ", " + radix + ")", x.digit(number, radix),
                        (int) Character.forDigit(number, radix));
            }
            CHECK.same("digit(MIN, " + radix + ")", x.digit(Integer.MIN_VALUE, radix), 0);
            CHECK.same("digit(MAX, " + radix + ")", x.digit(Integer.MAX_VALUE, radix), 0);
        }
    }

    private static void noSigns() {
        Signkinds x = new Signkinds();
        for (int sign : NO_SIGNS) {
            CHECK.illegal("isDigit(" + sign + ")", () -> x.isDigit(sign));
            CHECK.illegal("isLetter(" + sign + ")", () -> x.isLetter(sign));
            CHECK.illegal("isLetterOrDigit(" + sign + ")", () -> x.isLetterOrDigit(sign));
            CHECK.illegal("isWhite(" + sign + ")", () -> x.isWhite(sign));
            CHECK.illegal("isGreat(" + sign + ")", () -> x.isGreat(sign));
            CHECK.illegal("kinds(" + sign + ")", () -> x.kinds(sign));
            CHECK.illegal("upper(" + sign + ", true)", () -> x.upper(sign, true));
            CHECK.illegal("upper(" + sign + ", false)", () -> x.upper(sign, false));
            CHECK.illegal("lower(" + sign + ", true)", () -> x.lower(sign, true));
            CHECK.illegal("lower(" + sign + ", false)", () -> x.lower(sign, false));
            CHECK.illegal("value(" + sign + ", true)", () -> x.value(sign, true));
            CHECK.illegal("value(" + sign + ", false)", () -> x.value(sign, false));
            CHECK.illegal("number(" + sign + ", 10, true)", () -> x.number(sign, 10, true));
            CHECK.illegal("number(" + sign + ", 0, false)", () -> x.number(sign, 0, false));
        }
    }

    private static void saidInTheDocument() {
        Signkinds x = new Signkinds();
        CHECK.same("upper(181, true)", x.upper(181, true), 924);
        CHECK.same("upper(255, false)", x.upper(255, false), 376);
        CHECK.same("upper(247, true)", x.upper(247, true), 247);
        CHECK.same("lower(215, true)", x.lower(215, true), 215);
        CHECK.same("value(190, true)", x.value(190, true), -2);
        CHECK.same("value(187, true)", x.value(187, true), -1);
        CHECK.same("number(178, 10, true)", x.number(178, 10, true), -1);
        CHECK.same("number(122, 36, true)", x.number(122, 36, true), 35);
        CHECK.same("digit(35, 36)", x.digit(35, 36), 122);
        CHECK.same("digit(10, 10)", x.digit(10, 10), 0);
        CHECK.same("house(2) after what is asked", x.house(2), 0);
    }
}
