import java.io.IOException;
import java.util.function.BiFunction;

/** Each sentence of promises 2 to 12, the calls that change rows, at its edges. */
public final class RowStepBoundsTest {
    private static final Check CHECK = new Check("RowStepBoundsTest");
    private static final String NO_ROW = "Throws `IndexOutOfBoundsException` if there is no such ROW";
    private static final String NO_ROW_OF_BOTH = NO_ROW + " (both)";
    private static final String NO_KIND = "Throws `IllegalArgumentException` if kind is not 0 to 4";
    private static final String THE_SAME = "Throws `IllegalArgumentException` if both are the same";
    private static final int NONE = -1;
    private static final int NOT_DONE = -9;
    private static final int MIN = Integer.MIN_VALUE;
    private static final int MAX = Integer.MAX_VALUE;
    private static final int[] NO_ROWS = {MIN, -2, -1, 4, 5, MAX};

    public static void main(String[] args) throws IOException {
        Sentences said = new Sentences(CHECK).ofPromises(2, 12);
        layDropCopy(said);
        raiseToTurn(said);
        writeSpellRead(said);
        said.end();
    }

    private static void layDropCopy(Sentences said) {
        said.promises(2, "Returns how many it has then.", RowStepBoundsTest::lay);
        said.promises(2, NO_ROW, () -> noRow("lay of signs and of no signs", (x, row) -> x.lay(row, 65, 256, NONE, -2),
                (x, row) -> x.lay(row, 65, NONE, NONE, NONE)));
        said.promises(2, "Throws `IllegalArgumentException` if one is neither NONE nor a SIGN",
                RowStepBoundsTest::layOfNoSign);
        said.promises(2, "Throws `IllegalStateException` if it would have more than 40", RowStepBoundsTest::layOfTooMany);
        said.promises(3, "Returns how many it has then.", RowStepBoundsTest::drop);
        said.promises(3, NO_ROW, () -> noRow("drop of too few", (x, row) -> x.drop(row, -1), (x, row) -> x.drop(row, 1)));
        said.promises(3, "Throws `IllegalArgumentException` if many is below 0, or more than it has",
                RowStepBoundsTest::dropOfTooMany);
        said.promises(4, "Returns how many SIGNS it had before.", RowStepBoundsTest::copy);
        said.promises(4, NO_ROW_OF_BOTH, () -> noRowOfBoth("copy", Signkinds::copy));
    }

    private static void raiseToTurn(Sentences said) {
        said.promises(5, "Returns how many SIGNS are others by it.", RowStepBoundsTest::raise);
        said.promises(5, NO_ROW, () -> noRow("raise", Signkinds::raise, Signkinds::raise));
        said.promises(6, "Returns how many SIGNS are others by it.", RowStepBoundsTest::sink);
        said.promises(6, NO_ROW, () -> noRow("sink", Signkinds::sink, Signkinds::sink));
        said.promises(7, "Returns how many SIGNS go.", RowStepBoundsTest::sieve);
        said.promises(7, NO_ROW, () -> noRow("sieve by no kind", (x, row) -> x.sieve(row, 5, true),
                (x, row) -> x.sieve(row, 0, true)));
        said.promises(7, NO_KIND, RowStepBoundsTest::sieveByNoKind);
        said.promises(8, "Returns how many SIGNS go.", RowStepBoundsTest::strip);
        said.promises(8, NO_ROW, () -> noRow("strip", Signkinds::strip, Signkinds::strip));
        said.promises(9, "Returns how many SIGNS it has.", RowStepBoundsTest::turn);
        said.promises(9, NO_ROW, () -> noRow("turn", Signkinds::turn, Signkinds::turn));
    }

    private static void writeSpellRead(Sentences said) {
        said.promises(10, "Returns how many SIGNS come; -9 if the ROW would have more than 40.", RowStepBoundsTest::write);
        said.promises(10, NO_ROW, () -> noRow("write of no number in no radix", (x, row) -> x.write(row, -1, 37),
                (x, row) -> x.write(row, 0, 2)));
        said.promises(10, "Throws `IllegalArgumentException` if number is not 0 to 999999, or radix not 2 to 36",
                RowStepBoundsTest::writeOfNoNumber);
        said.promises(11, "Returns how many SIGNS that has then; -9 if it would have more than 40.",
                RowStepBoundsTest::spell);
        said.promises(11, NO_ROW_OF_BOTH, () -> noRowOfBoth("spell", Signkinds::spell));
        said.promises(11, THE_SAME, () -> theSame("spell", Signkinds::spell, "a".repeat(21)));
        said.promises(12, "Returns how many SIGNS that has then; -9 if it can not be done.", RowStepBoundsTest::read);
        said.promises(12, NO_ROW_OF_BOTH, () -> noRowOfBoth("read", Signkinds::read));
        said.promises(12, THE_SAME, () -> theSame("read", Signkinds::read, "odd"));
    }

    /** A call of one row; the call whose other arguments are wrong too must tell of the row first. */
    private static void noRow(String call, BiFunction<Signkinds, Integer, Object> allWrong,
            BiFunction<Signkinds, Integer, Object> right) {
        for (int row : NO_ROWS) {
            CHECK.refused(call + " in the row " + row, Made::filled, x -> allWrong.apply(x, row), Check.INDEX);
            CHECK.refused("the call as it should be in the row " + row, Made::filled, x -> right.apply(x, row), Check.INDEX);
        }
        for (int row = 0; row < 4; row++) {
            Signkinds x = Made.filled();
            int there = row;
            Object answer = Check.outcome(() -> right.apply(x, there));
            CHECK.same("the call as it should be in the row " + row, answer instanceof Integer, true);
        }
    }

    /** A call of two rows. */
    private interface OfTwo {
        Object of(Signkinds x, int one, int other);
    }

    private static void noRowOfBoth(String call, OfTwo made) {
        for (int row : NO_ROWS) {
            CHECK.refused(call + " from " + row, Made::filled, x -> made.of(x, row, 0), Check.INDEX);
            CHECK.refused(call + " to " + row, Made::filled, x -> made.of(x, 0, row), Check.INDEX);
            CHECK.refused(call + " from and to " + row, Made::filled, x -> made.of(x, row, row), Check.INDEX);
            CHECK.refused(call + " to " + row + ", from what can not be done", () -> Made.row("z".repeat(21)),
                    x -> made.of(x, 0, row), Check.INDEX);
        }
        for (int row = 0; row < 4; row++) {
            Signkinds x = Made.filled();
            int from = row;
            int to = 3 - row;
            Object answer = Check.outcome(() -> made.of(x, from, to));
            CHECK.same(call + " from " + from + " to " + to, answer instanceof Integer, true);
        }
    }

    /** Both rows are the same; it comes ahead of what can not be done. */
    private static void theSame(String call, OfTwo made, String notDone) {
        for (int row = 0; row < 4; row++) {
            int both = row;
            CHECK.refused(call + " from and to " + row, Made::filled, x -> made.of(x, both, both), Check.ARGUMENT);
            CHECK.refused(call + " of none, from and to " + row, Signkinds::new, x -> made.of(x, both, both),
                    Check.ARGUMENT);
            CHECK.refused(call + " that can not be done, from and to " + row,
                    () -> Made.with(new Signkinds(), both, notDone), x -> made.of(x, both, both), Check.ARGUMENT);
        }
    }

    private static void lay() {
        Signkinds x = new Signkinds();
        CHECK.same("lay() of nothing in an empty row", x.lay(0, NONE, NONE, NONE, NONE), 0);
        CHECK.same("lay() of a alone", x.lay(0, 1, NONE, NONE, NONE), 1);
        CHECK.same("lay() of b alone", x.lay(0, NONE, 2, NONE, NONE), 2);
        CHECK.same("lay() of c alone", x.lay(0, NONE, NONE, 3, NONE), 3);
        CHECK.same("lay() of d alone", x.lay(0, NONE, NONE, NONE, 4), 4);
        CHECK.same("lay() of all", x.lay(0, 0, 255, 5, 6), 8);
        CHECK.same("the signs", Made.signs(x, 0), "\1\2\3\4\0\u00ff\5\6");
        for (int many = 36; many <= 40; many++) {
            Signkinds full = Made.row("a".repeat(many));
            int[] more = {NONE, NONE, NONE, NONE};
            for (int k = 0; k < 40 - many; k++) {
                more[3 - k] = 65;
            }
            CHECK.same("lay() up to 40 behind " + many, full.lay(0, more[0], more[1], more[2], more[3]), 40);
            CHECK.same("the signs behind " + many, Made.signs(full, 0), "a".repeat(many) + "A".repeat(40 - many));
        }
    }

    private static void layOfNoSign() {
        for (int no : new int[] {MIN, -9, -2, 256, 257, MAX}) {
            CHECK.refused("a of " + no, Made::filled, x -> x.lay(0, no, 1, 2, 3), Check.ARGUMENT);
            CHECK.refused("b of " + no, Made::filled, x -> x.lay(0, 1, no, 2, 3), Check.ARGUMENT);
            CHECK.refused("c of " + no, Made::filled, x -> x.lay(0, 1, 2, no, 3), Check.ARGUMENT);
            CHECK.refused("d of " + no, Made::filled, x -> x.lay(0, 1, 2, 3, no), Check.ARGUMENT);
            CHECK.refused("d of " + no + " in a full row", () -> Made.row("a".repeat(40)), x -> x.lay(0, 1, 2, 3, no),
                    Check.ARGUMENT);
        }
    }

    private static void layOfTooMany() {
        for (int many = 37; many <= 40; many++) {
            String signs = "a".repeat(many);
            int one = 41 - many;
            CHECK.refused("lay() of 41 in all behind " + many, () -> Made.row(signs),
                    x -> x.lay(0, one > 3 ? 0 : NONE, one > 2 ? 0 : NONE, one > 1 ? 0 : NONE, 0), Check.STATE);
            CHECK.refused("lay() of four behind " + many, () -> Made.row(signs), x -> x.lay(0, 1, 2, 3, 4), Check.STATE);
        }
        Signkinds other = Made.row("a".repeat(40));
        CHECK.same("another row has room", other.lay(1, 1, 2, 3, 4), 4);
        CHECK.same("nothing behind 40", other.lay(0, NONE, NONE, NONE, NONE), 40);
    }

    private static void drop() {
        for (int many : new int[] {0, 1, 2, 39, 40}) {
            String signs = "0123456789".repeat(4).substring(0, many);
            for (int gone = 0; gone <= many; gone++) {
                Signkinds x = Made.row(signs);
                CHECK.same("drop(0, " + gone + ") of " + many, x.drop(0, gone), many - gone);
                CHECK.same("what stays of " + many, Made.signs(x, 0), signs.substring(0, many - gone));
            }
        }
    }

    private static void dropOfTooMany() {
        for (int many : new int[] {0, 1, 39, 40}) {
            for (int gone : new int[] {MIN, -2, -1, many + 1, many + 2, 41, MAX}) {
                CHECK.refused("drop(0, " + gone + ") of " + many, () -> Made.row("a".repeat(many)), x -> x.drop(0, gone),
                        Check.ARGUMENT);
            }
        }
    }

    private static void copy() {
        for (int from = 0; from < 4; from++) {
            for (int to = 0; to < 4; to++) {
                Signkinds x = Made.filled();
                int before = x.length(to);
                String signs = Made.signs(x, from);
                CHECK.same("copy(" + from + ", " + to + ")", x.copy(from, to), before);
                CHECK.same("what it becomes", Made.signs(x, to), signs);
                CHECK.same("what it was copied from", Made.signs(x, from), signs);
                CHECK.same("steps, of it too", x.house(2), 6);
            }
        }
        int[][] sizes = {{0, 0}, {0, 40}, {40, 0}, {40, 40}, {1, 40}, {40, 1}};
        for (int[] size : sizes) {
            Signkinds x = Made.with(Made.row("a".repeat(size[0])), 1, "b".repeat(size[1]));
            CHECK.same("copy(0, 1) of " + size[0] + " to " + size[1], x.copy(0, 1), size[1]);
            CHECK.same("what it becomes", Made.signs(x, 1), "a".repeat(size[0]));
        }
        Signkinds full = Made.row("a".repeat(40));
        CHECK.same("copy(0, 0) of 40", full.copy(0, 0), 40);
        CHECK.same("what it stays", Made.signs(full, 0), "a".repeat(40));
        CHECK.same("copy(1, 1) of none", full.copy(1, 1), 0);
    }

    private static void raise() {
        String[] rows = {"", "a", "A", "5", "\u00b5", "\u00ff", "\u00df", "aB", "\u00e0\u00f7\u00fe", "a".repeat(40),
            "A".repeat(39) + "a", "a" + "A".repeat(39)};
        int[] due = {0, 1, 0, 0, 0, 0, 0, 1, 2, 40, 1, 1};
        for (int k = 0; k < rows.length; k++) {
            Signkinds x = Made.row(rows[k]);
            CHECK.same("raise(0) of " + rows[k], x.raise(0), due[k]);
            CHECK.same("raise(0) again of " + rows[k], x.raise(0), 0);
            CHECK.same("length(0) of " + rows[k], x.length(0), rows[k].length());
        }
    }

    private static void sink() {
        String[] rows = {"", "A", "a", "5", "\u00b5", "\u00ff", "\u00df", "aB", "\u00c0\u00d7\u00de", "A".repeat(40),
            "a".repeat(39) + "A", "A" + "a".repeat(39)};
        int[] due = {0, 1, 0, 0, 0, 0, 0, 1, 2, 40, 1, 1};
        for (int k = 0; k < rows.length; k++) {
            Signkinds x = Made.row(rows[k]);
            CHECK.same("sink(0) of " + rows[k], x.sink(0), due[k]);
            CHECK.same("sink(0) again of " + rows[k], x.sink(0), 0);
            CHECK.same("length(0) of " + rows[k], x.length(0), rows[k].length());
        }
    }

    private static void sieve() {
        String[] rows = {"", "1", "a", "1a", "a1", "1".repeat(40), "a".repeat(40), "a" + "1".repeat(39), "1a".repeat(20)};
        int[] letters = {0, 0, 1, 1, 1, 0, 40, 1, 20};
        for (int k = 0; k < rows.length; k++) {
            int digits = rows[k].length() - letters[k];
            CHECK.same("sieve(0, 0, true) of " + rows[k], Made.row(rows[k]).sieve(0, 0, true), letters[k]);
            CHECK.same("sieve(0, 0, false) of " + rows[k], Made.row(rows[k]).sieve(0, 0, false), digits);
            Signkinds x = Made.row(rows[k]);
            x.sieve(0, 1, true);
            CHECK.same("what stays of " + rows[k], Made.signs(x, 0), "a".repeat(letters[k]));
        }
    }

    private static void sieveByNoKind() {
        for (int kind : new int[] {MIN, -2, -1, 5, 6, MAX}) {
            CHECK.refused("sieve(0, " + kind + ", true)", Made::filled, x -> x.sieve(0, kind, true), Check.ARGUMENT);
            CHECK.refused("sieve(0, " + kind + ", false)", Made::filled, x -> x.sieve(0, kind, false), Check.ARGUMENT);
            CHECK.refused("sieve(0, " + kind + ", true) of none", Signkinds::new, x -> x.sieve(0, kind, true),
                    Check.ARGUMENT);
        }
        // The kinds 0 and 4 are the least and the greatest one.
        CHECK.same("sieve(0, 0, true)", Made.row("a5B").sieve(0, 0, true), 2);
        CHECK.same("sieve(0, 4, false)", Made.row("a5B").sieve(0, 4, false), 1);
    }

    private static void strip() {
        String[] rows = {"", "a", " ", " a", "a ", " a ", "a a", " ".repeat(40), " ".repeat(39) + "a", "a" + " ".repeat(39),
            "a".repeat(40)};
        int[] due = {0, 0, 1, 1, 1, 2, 0, 40, 39, 39, 0};
        for (int k = 0; k < rows.length; k++) {
            Signkinds x = Made.row(rows[k]);
            CHECK.same("strip(0) of case " + k, x.strip(0), due[k]);
            CHECK.same("length(0) of case " + k, x.length(0), rows[k].length() - due[k]);
        }
    }

    private static void turn() {
        for (int many = 0; many <= 40; many++) {
            String signs = "0123456789".repeat(4).substring(40 - many);
            Signkinds x = Made.row(signs);
            CHECK.same("turn(0) of " + many, x.turn(0), many);
            CHECK.same("what it becomes", Made.signs(x, 0), new StringBuilder(signs).reverse().toString());
        }
    }

    private static void write() {
        int[][] numbers = {{0, 2, 1}, {1, 36, 1}, {2, 2, 2}, {999999, 36, 4}, {999999, 10, 6}, {100000, 10, 6},
            {99999, 10, 5}, {999999, 3, 13}, {524287, 2, 19}, {524288, 2, 20}, {999999, 2, 20}};
        for (int[] number : numbers) {
            int many = number[2];
            for (int before : new int[] {0, 1, 39 - many, 40 - many}) {
                Signkinds x = Made.row("-".repeat(before));
                String told = "write(0, " + number[0] + ", " + number[1] + ") behind " + before;
                CHECK.same(told, x.write(0, number[0], number[1]), many);
                CHECK.same("the length by " + told, x.length(0), before + many);
            }
            for (int before : new int[] {41 - many, 40}) {
                CHECK.refused("write(0, " + number[0] + ", " + number[1] + ") behind " + before,
                        () -> Made.row("-".repeat(before)), x -> x.write(0, number[0], number[1]), NOT_DONE);
            }
        }
    }

    private static void writeOfNoNumber() {
        for (int no : new int[] {MIN, -2, -1, 1000000, 1000001, MAX}) {
            CHECK.refused("write(0, " + no + ", 10)", Made::filled, x -> x.write(0, no, 10), Check.ARGUMENT);
            CHECK.refused("write(0, " + no + ", 1)", Made::filled, x -> x.write(0, no, 1), Check.ARGUMENT);
            CHECK.refused("write(0, " + no + ", 10) behind 40", () -> Made.row("a".repeat(40)), x -> x.write(0, no, 10),
                    Check.ARGUMENT);
        }
        for (int radix : new int[] {MIN, -2, -1, 0, 1, 37, 38, MAX}) {
            CHECK.refused("write(0, 0, " + radix + ")", Made::filled, x -> x.write(0, 0, radix), Check.ARGUMENT);
            CHECK.refused("write(0, 999999, " + radix + ")", Made::filled, x -> x.write(0, 999999, radix), Check.ARGUMENT);
            CHECK.refused("write(0, 0, " + radix + ") behind 40", () -> Made.row("a".repeat(40)),
                    x -> x.write(0, 0, radix), Check.ARGUMENT);
        }
        for (int radix : new int[] {2, 36}) {
            CHECK.same("write(0, 0, " + radix + ")", new Signkinds().write(0, 0, radix), 1);
            CHECK.same("write(0, 999999, " + radix + ")", new Signkinds().write(0, 999999, radix), radix == 2 ? 20 : 4);
        }
    }

    private static void spell() {
        for (int many : new int[] {0, 1, 2, 19, 20}) {
            Signkinds x = Made.with(Made.row("z".repeat(many)), 1, "b".repeat(40));
            CHECK.same("spell(0, 1) of " + many, x.spell(0, 1), 2 * many);
            CHECK.same("what it becomes", Made.signs(x, 1), "7a".repeat(many));
            CHECK.same("what it was", Made.signs(x, 0), "z".repeat(many));
        }
        for (int many : new int[] {21, 22, 39, 40}) {
            CHECK.refused("spell(0, 1) of " + many, () -> Made.row("z".repeat(many)), x -> x.spell(0, 1), NOT_DONE);
        }
    }

    private static void read() {
        for (int many : new int[] {0, 1, 2, 19, 20}) {
            Signkinds x = Made.with(Made.row("7A".repeat(many)), 1, "b".repeat(40));
            CHECK.same("read(0, 1) of " + 2 * many, x.read(0, 1), many);
            CHECK.same("what it becomes", Made.signs(x, 1), "z".repeat(many));
            CHECK.same("what it was", Made.signs(x, 0), "7A".repeat(many));
        }
        for (int many : new int[] {1, 3, 37, 39}) {
            CHECK.refused("read(0, 1) of " + many, () -> Made.row("7".repeat(many)), x -> x.read(0, 1), NOT_DONE);
        }
        for (int place = 0; place < 40; place++) {
            String signs = "7".repeat(place) + "g" + "7".repeat(39 - place);
            CHECK.refused("read(0, 1) of " + signs, () -> Made.row(signs), x -> x.read(0, 1), NOT_DONE);
        }
    }
}
