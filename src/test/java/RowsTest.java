/** Promises 2 to 12 and 31 to 44, a method each: ordinary calls, the edges, and wrong ones. */
public final class RowsTest {
    private static final Check CHECK = new Check("RowsTest");
    private static final int NONE = -1;

    public static void main(String[] args) {
        lay();
        drop();
        copy();
        raise();
        sink();
        sieve();
        strip();
        turn();
        write();
        spell();
        read();
        lengthAndAt();
        count();
        first();
        last();
        formsAndSpelled();
        told();
        sum();
        values();
        words();
        word();
        isAlike();
        order();
        noSuchRow();
        CHECK.end();
    }

    /** Lays the signs of the text behind those of a row. */
    private static Signkinds with(Signkinds x, int row, String signs) {
        for (char sign : signs.toCharArray()) {
            x.lay(row, sign, NONE, NONE, NONE);
        }
        return x;
    }

    private static Signkinds rowOf(String signs) {
        return with(new Signkinds(), 0, signs);
    }

    private static void holds(String told, Signkinds x, int row, String due) {
        StringBuilder got = new StringBuilder();
        for (int place = 0; place < x.length(row); place++) {
            got.append((char) x.at(row, place));
        }
        CHECK.same(told, got.toString(), due);
    }

    private static void lay() {
        Signkinds x = new Signkinds();
        CHECK.same("lay(0, 1, 2, 3, 4)", x.lay(0, 1, 2, 3, 4), 4);
        CHECK.same("lay(0, NONE, 5, NONE, 6)", x.lay(0, NONE, 5, NONE, 6), 6);
        CHECK.same("lay(0, NONE four times)", x.lay(0, NONE, NONE, NONE, NONE), 6);
        CHECK.same("house(2) after three steps", x.house(2), 3);
        holds("the row 0", x, 0, "\1\2\3\4\5\6");
        CHECK.same("lay(3, 0, 255, NONE, NONE)", x.lay(3, 0, 255, NONE, NONE), 2);
        holds("the row 3", x, 3, "\0\u00ff");
        long before = x.digest();
        CHECK.io("lay(4, 256, ..)", () -> x.lay(4, 256, 0, 0, 0));
        CHECK.io("lay(-1, 0, ..)", () -> x.lay(-1, 0, 0, 0, 0));
        CHECK.illegal("a of 256", () -> x.lay(0, 256, 0, 0, 0));
        CHECK.illegal("b of -2", () -> x.lay(0, 0, -2, 0, 0));
        CHECK.illegal("c of 256", () -> x.lay(0, 0, 0, 256, 0));
        CHECK.illegal("d of MAX", () -> x.lay(0, 0, 0, 0, Integer.MAX_VALUE));
        CHECK.same("nothing changed", x.digest(), before);
        Signkinds full = rowOf("a".repeat(37));
        CHECK.state("lay() of 4 behind 37", () -> full.lay(0, 1, 2, 3, 4));
        CHECK.illegal("lay() of 4 and no sign behind 37", () -> full.lay(0, 1, 2, 3, 256));
        CHECK.same("length(0) after that", full.length(0), 37);
        CHECK.same("lay() of 3 behind 37", full.lay(0, 1, NONE, 3, 4), 40);
        CHECK.same("lay() of none behind 40", full.lay(0, NONE, NONE, NONE, NONE), 40);
        CHECK.state("lay() of 1 behind 40", () -> full.lay(0, NONE, NONE, NONE, 4));
        CHECK.illegal("lay() of no sign behind 40", () -> full.lay(0, NONE, NONE, NONE, -2));
        CHECK.same("another row has room", full.lay(1, 9, 9, 9, 9), 4);
    }

    private static void drop() {
        Signkinds x = rowOf("abcde");
        CHECK.same("drop(0, 2)", x.drop(0, 2), 3);
        holds("the row 0", x, 0, "abc");
        CHECK.same("drop(0, 0)", x.drop(0, 0), 3);
        CHECK.illegal("drop(0, 4)", () -> x.drop(0, 4));
        CHECK.illegal("drop(0, -1)", () -> x.drop(0, -1));
        CHECK.illegal("drop(0, MIN)", () -> x.drop(0, Integer.MIN_VALUE));
        CHECK.illegal("drop(0, MAX)", () -> x.drop(0, Integer.MAX_VALUE));
        CHECK.io("drop(4, -1)", () -> x.drop(4, -1));
        holds("the row 0", x, 0, "abc");
        CHECK.same("drop(0, 3)", x.drop(0, 3), 0);
        CHECK.same("drop(0, 0) of none", x.drop(0, 0), 0);
        CHECK.illegal("drop(0, 1) of none", () -> x.drop(0, 1));
    }

    private static void copy() {
        Signkinds x = with(rowOf("abc"), 1, "z");
        CHECK.same("copy(0, 1)", x.copy(0, 1), 1);
        holds("the row 1", x, 1, "abc");
        holds("the row 0", x, 0, "abc");
        x.lay(0, 'd', NONE, NONE, NONE);
        holds("the row 1 is one of its own", x, 1, "abc");
        CHECK.same("copy(0, 0)", x.copy(0, 0), 4);
        holds("the row 0 stays", x, 0, "abcd");
        CHECK.same("copy(2, 0)", x.copy(2, 0), 4);
        holds("the row 0", x, 0, "");
        Signkinds y = rowOf("a");
        CHECK.same("copy(0, 0) is a step", y.copy(0, 0) + y.house(2), 3);
        CHECK.io("copy(0, 4)", () -> y.copy(0, 4));
        CHECK.io("copy(-1, 0)", () -> y.copy(-1, 0));
        CHECK.same("no step by them", y.house(2), 2);
    }

    private static void raise() {
        Signkinds x = rowOf("aZ5\u00b5\u00ff\u00df\u00e0\u00f7\u00fe");
        CHECK.same("raise(0)", x.raise(0), 3);
        holds("the row 0", x, 0, "AZ5\u00b5\u00ff\u00df\u00c0\u00f7\u00de");
        CHECK.same("raise(0) again", x.raise(0), 0);
        CHECK.same("raise(1)", x.raise(1), 0);
    }

    private static void sink() {
        Signkinds x = rowOf("aZ5\u00b5\u00ff\u00df\u00c0\u00d7\u00de");
        CHECK.same("sink(0)", x.sink(0), 3);
        holds("the row 0", x, 0, "az5\u00b5\u00ff\u00df\u00e0\u00d7\u00fe");
        CHECK.same("sink(0) again", x.sink(0), 0);
        CHECK.same("sink(0) of the first one alone", rowOf("Ab").sink(0), 1);
        CHECK.same("sink(1)", x.sink(1), 0);
    }

    private static void sieve() {
        String[] stay = {"5", "aB", "a5B", " ", "B"};
        String[] others = {"a B-", "5 -", " -", "a5B-", "a5 -"};
        for (int kind = 0; kind < 5; kind++) {
            Signkinds x = with(rowOf("a5 B-"), 1, "a5 B-");
            CHECK.same("sieve(0, " + kind + ", true)", x.sieve(0, kind, true), 5 - stay[kind].length());
            holds("the row 0", x, 0, stay[kind]);
            CHECK.same("sieve(1, " + kind + ", false)", x.sieve(1, kind, false), 5 - others[kind].length());
            holds("the row 1", x, 1, others[kind]);
            CHECK.same("sieve(2, " + kind + ", true)", x.sieve(2, kind, true), 0);
        }
        Signkinds x = rowOf("a5");
        CHECK.illegal("sieve(0, 5, true)", () -> x.sieve(0, 5, true));
        CHECK.illegal("sieve(0, -1, false)", () -> x.sieve(0, -1, false));
        CHECK.io("sieve(4, 5, true)", () -> x.sieve(4, 5, true));
        holds("the row 0 stays", x, 0, "a5");
    }

    private static void strip() {
        Signkinds x = rowOf(" \t\na b\u00a0 \u001c\u001f");
        CHECK.same("strip(0)", x.strip(0), 6);
        holds("the row 0", x, 0, "a b\u00a0");
        CHECK.same("strip(0) again", x.strip(0), 0);
        CHECK.same("strip(1)", x.strip(1), 0);
        Signkinds white = rowOf(" \t \r");
        CHECK.same("strip(0) of white ones", white.strip(0), 4);
        CHECK.same("length(0)", white.length(0), 0);
        Signkinds begin = rowOf("  a");
        CHECK.same("strip(0) of a begin", begin.strip(0), 2);
        holds("the row 0", begin, 0, "a");
        Signkinds end = rowOf("a ");
        CHECK.same("strip(0) of an end", end.strip(0), 1);
        holds("the row 0", end, 0, "a");
        Signkinds other = rowOf("\u001b\u0085 ");
        CHECK.same("strip(0) of others", other.strip(0), 1);
    }

    private static void turn() {
        Signkinds x = with(rowOf("abcd"), 1, "xyz");
        CHECK.same("turn(0)", x.turn(0), 4);
        holds("the row 0", x, 0, "dcba");
        CHECK.same("turn(1)", x.turn(1), 3);
        holds("the row 1", x, 1, "zyx");
        CHECK.same("turn(2)", x.turn(2), 0);
    }

    private static void write() {
        int[][] numbers = {{0, 2}, {1, 2}, {0, 36}, {35, 36}, {36, 36}, {255, 16}, {256, 16}, {999999, 2},
            {999999, 3}, {999999, 10}, {100000, 10}, {999999, 36}, {524288, 2}, {524287, 2}, {9, 10}, {10, 10}};
        for (int[] number : numbers) {
            Signkinds x = rowOf("z");
            String due = Integer.toString(number[0], number[1]);
            String told = "write(0, " + number[0] + ", " + number[1] + ")";
            CHECK.same(told, x.write(0, number[0], number[1]), due.length());
            holds(told, x, 0, "z" + due);
        }
        Signkinds x = rowOf("a".repeat(38));
        int steps = x.house(2);
        long before = x.digest();
        CHECK.same("write(0, 100, 10) behind 38", x.write(0, 100, 10), -9);
        CHECK.illegal("write(0, -1, 10)", () -> x.write(0, -1, 10));
        CHECK.illegal("write(0, 1000000, 10)", () -> x.write(0, 1000000, 10));
        CHECK.illegal("write(0, 5, 1)", () -> x.write(0, 5, 1));
        CHECK.illegal("write(0, 5, 0)", () -> x.write(0, 5, 0));
        CHECK.illegal("write(0, 5, 37)", () -> x.write(0, 5, 37));
        CHECK.io("write(4, -1, 10)", () -> x.write(4, -1, 10));
        CHECK.same("nothing changed", x.digest(), before);
        CHECK.same("no steps more", x.house(2), steps);
        CHECK.same("write(0, 99, 10) behind 38", x.write(0, 99, 10), 2);
        CHECK.same("write(0, 0, 10) behind 40", x.write(0, 0, 10), -9);
        CHECK.illegal("write(0, 0, 1) behind 40", () -> x.write(0, 0, 1));
    }

    private static void spell() {
        Signkinds x = with(rowOf("Az\0\u00ff"), 1, "old");
        CHECK.same("spell(0, 1)", x.spell(0, 1), 8);
        holds("the row 1", x, 1, "417a00ff");
        holds("the row 0", x, 0, "Az\0\u00ff");
        CHECK.same("spell(2, 1)", x.spell(2, 1), 0);
        holds("the row 1", x, 1, "");
        CHECK.illegal("spell(0, 0)", () -> x.spell(0, 0));
        CHECK.io("spell(0, 4)", () -> x.spell(0, 4));
        CHECK.io("spell(4, 4)", () -> x.spell(4, 4));
        CHECK.io("spell(-1, 0)", () -> x.spell(-1, 0));
        Signkinds full = with(rowOf("a".repeat(20)), 1, "b".repeat(21));
        CHECK.same("spell(0, 2) of 20", full.spell(0, 2), 40);
        long before = full.digest();
        CHECK.same("spell(1, 2) of 21", full.spell(1, 2), -9);
        CHECK.illegal("spell(1, 1) of 21", () -> full.spell(1, 1));
        CHECK.same("nothing changed", full.digest(), before);
    }

    private static void read() {
        Signkinds x = with(rowOf("417A00fF"), 1, "old");
        CHECK.same("read(0, 1)", x.read(0, 1), 4);
        holds("the row 1", x, 1, "Az\0\u00ff");
        holds("the row 0", x, 0, "417A00fF");
        CHECK.same("read(2, 1)", x.read(2, 1), 0);
        holds("the row 1", x, 1, "");
        CHECK.illegal("read(0, 0)", () -> x.read(0, 0));
        CHECK.io("read(0, 4)", () -> x.read(0, 4));
        CHECK.io("read(-1, -1)", () -> x.read(-1, -1));
        for (String unread : new String[] {"4", "417", "4g", "g4", "4 ", "4\u00b2", "4041G0"}) {
            Signkinds y = with(rowOf(unread), 1, "old");
            long before = y.digest();
            CHECK.same("read(0, 1) of " + unread, y.read(0, 1), -9);
            CHECK.same("nothing changed", y.digest(), before);
            CHECK.illegal("read(0, 0) of " + unread, () -> y.read(0, 0));
        }
        CHECK.same("read(0, 1) of 40", rowOf("61".repeat(20)).read(0, 1), 20);
    }

    private static void lengthAndAt() {
        Signkinds x = rowOf("abc");
        CHECK.same("length(0)", x.length(0), 3);
        CHECK.same("length(3)", x.length(3), 0);
        CHECK.same("at(0, 0)", x.at(0, 0), 97);
        CHECK.same("at(0, 2)", x.at(0, 2), 99);
        CHECK.io("at(0, 3)", () -> x.at(0, 3));
        CHECK.io("at(0, -1)", () -> x.at(0, -1));
        CHECK.io("at(0, MAX)", () -> x.at(0, Integer.MAX_VALUE));
        CHECK.io("at(1, 0)", () -> x.at(1, 0));
        x.drop(0, 1);
        CHECK.io("at(0, 2) of what went", () -> x.at(0, 2));
    }

    private static void count() {
        Signkinds x = rowOf("a5 B-\u00e9\u00b2");
        int[] due = {1, 3, 4, 1, 1};
        for (int kind = 0; kind < 5; kind++) {
            CHECK.same("count(0, " + kind + ")", x.count(0, kind), due[kind]);
            CHECK.same("count(1, " + kind + ")", x.count(1, kind), 0);
        }
        CHECK.illegal("count(0, 5)", () -> x.count(0, 5));
        CHECK.illegal("count(0, -1)", () -> x.count(0, -1));
        CHECK.io("count(4, 5)", () -> x.count(4, 5));
    }

    private static void first() {
        Signkinds x = rowOf("a5 B5");
        CHECK.same("first(0, 0, 0)", x.first(0, 0, 0), 1);
        CHECK.same("first(0, 0, 1)", x.first(0, 0, 1), 1);
        CHECK.same("first(0, 0, 2)", x.first(0, 0, 2), 4);
        CHECK.same("first(0, 3, 3)", x.first(0, 3, 3), NONE);
        CHECK.same("first(0, 0, 5)", x.first(0, 0, 5), NONE);
        CHECK.same("first(0, 0, MAX)", x.first(0, 0, Integer.MAX_VALUE), NONE);
        CHECK.same("first(1, 0, 0)", x.first(1, 0, 0), NONE);
        CHECK.illegal("first(0, 5, 0)", () -> x.first(0, 5, 0));
        CHECK.illegal("first(0, -1, 0)", () -> x.first(0, -1, 0));
        CHECK.illegal("first(0, 0, -1)", () -> x.first(0, 0, -1));
        CHECK.io("first(4, 5, -1)", () -> x.first(4, 5, -1));
    }

    private static void last() {
        Signkinds x = rowOf("a5 B5-");
        CHECK.same("last(0, 0)", x.last(0, 0), 4);
        CHECK.same("last(0, 1)", x.last(0, 1), 3);
        CHECK.same("last(0, 2)", x.last(0, 2), 4);
        CHECK.same("last(0, 3)", x.last(0, 3), 2);
        CHECK.same("last(0, 4)", x.last(0, 4), 3);
        CHECK.same("last(0, 3) at the first place", rowOf(" a").last(0, 3), 0);
        CHECK.same("last(0, 3) at the last place", rowOf("a ").last(0, 3), 1);
        CHECK.same("last(1, 0)", x.last(1, 0), NONE);
        CHECK.illegal("last(0, 5)", () -> x.last(0, 5));
        CHECK.illegal("last(0, -1)", () -> x.last(0, -1));
        CHECK.io("last(-1, 5)", () -> x.last(-1, 5));
    }

    private static void formsAndSpelled() {
        Signkinds x = rowOf("a5 B-\u00e9\u00c9\u00b2\u00a0\0\u001f\u00aa");
        CHECK.same("forms(0)", x.forms(0), "ldwu-lu---wl");
        CHECK.same("forms(1)", x.forms(1), "");
        CHECK.same("spelled(0)", x.spelled(0), "613520422de9c9b2a0001faa");
        CHECK.same("spelled(1)", x.spelled(1), "");
        CHECK.same("spelled(0) of 40", rowOf("z".repeat(40)).spelled(0), "7a".repeat(40));
    }

    private static void told() {
        CHECK.same("told(0, 36) of Zz", rowOf("Zz").told(0, 36), 1295);
        CHECK.same("told(0, 10) of 007", rowOf("007").told(0, 10), 7);
        CHECK.same("told(0, 10) of 1000003", rowOf("1000003").told(0, 10), 0);
        CHECK.same("told(0, 10) of 1000002", rowOf("1000002").told(0, 10), 1000002);
        CHECK.same("told(0, 2) of 12", rowOf("12").told(0, 2), -9);
        CHECK.same("told(0, 10) of 1 2", rowOf("1 2").told(0, 10), -9);
        CHECK.same("told(0, 10) of a small raised 2", rowOf("\u00b2").told(0, 10), -9);
        java.math.BigInteger greatest = new java.math.BigInteger("z".repeat(40), 36);
        CHECK.same("told(0, 36) of 40", rowOf("z".repeat(40)).told(0, 36),
                greatest.mod(java.math.BigInteger.valueOf(1000003)).intValue());
        Signkinds x = rowOf("1");
        CHECK.same("told(1, 10)", x.told(1, 10), -9);
        CHECK.illegal("told(0, 1)", () -> x.told(0, 1));
        CHECK.illegal("told(1, 37)", () -> x.told(1, 37));
        CHECK.illegal("told(0, MIN)", () -> x.told(0, Integer.MIN_VALUE));
        CHECK.io("told(4, 1)", () -> x.told(4, 1));
    }

    private static void sum() {
        Signkinds x = rowOf("9aZ- \u00b2");
        CHECK.same("sum(0, 36)", x.sum(0, 36), 54);
        CHECK.same("sum(0, 16)", x.sum(0, 16), 19);
        CHECK.same("sum(0, 10)", x.sum(0, 10), 9);
        CHECK.same("sum(0, 9)", x.sum(0, 9), 0);
        CHECK.same("sum(0, 37)", x.sum(0, 37), 0);
        CHECK.same("sum(0, 1)", x.sum(0, 1), 0);
        CHECK.same("sum(0, -5)", x.sum(0, -5), 0);
        CHECK.same("sum(1, 10)", x.sum(1, 10), 0);
    }

    private static void values() {
        CHECK.same("values(0)", rowOf("9aZ- ").values(0), 54);
        CHECK.same("values(0) of raised ones", rowOf("\u00b2\u00b3\u00b9\u00bc\u00bd\u00be").values(0), 6);
        CHECK.same("values(1)", new Signkinds().values(1), 0);
    }

    private static void words() {
        String[] rows = {"", " ", "a", " a ", "a b", "ab--5c \u00e9", "-", "a\u00b2b", "\u00aa\u00ba5"};
        int[] due = {0, 0, 1, 1, 2, 3, 0, 2, 1};
        for (int k = 0; k < rows.length; k++) {
            CHECK.same("words(0) of " + rows[k], rowOf(rows[k]).words(0), due[k]);
        }
    }

    private static void word() {
        Signkinds x = rowOf("ab--5cd \u00e9");
        int[] places = {0, 4, 8};
        int[] lengths = {2, 3, 1};
        for (int k = 0; k < 3; k++) {
            CHECK.same("word(0, " + k + ", false)", x.word(0, k, false), places[k]);
            CHECK.same("word(0, " + k + ", true)", x.word(0, k, true), lengths[k]);
        }
        CHECK.io("word(0, 3, true)", () -> x.word(0, 3, true));
        CHECK.io("word(0, 3, false)", () -> x.word(0, 3, false));
        CHECK.io("word(0, -1, false)", () -> x.word(0, -1, false));
        CHECK.io("word(1, 0, true)", () -> x.word(1, 0, true));
        CHECK.same("word(0, 0, true) of 40", rowOf("a".repeat(40)).word(0, 0, true), 40);
    }

    private static void isAlike() {
        String[][] alike = {{"", ""}, {"aB5 ", "Ab5 "}, {"\u00e9", "\u00c9"}, {"\u00ff", "\u00ff"}};
        String[][] unlike = {{"", "a"}, {"ab", "a"}, {"a", "ab"}, {"a", "b"}, {"ab", "ac"}, {"\u00ff", "\u00df"},
            {"\u00d7", "\u00f7"}, {"@", "`"}};
        for (String[] rows : alike) {
            CHECK.same("isAlike of " + String.join(", ", rows), with(rowOf(rows[0]), 1, rows[1]).isAlike(0, 1), true);
        }
        for (String[] rows : unlike) {
            CHECK.same("isAlike of " + String.join(", ", rows), with(rowOf(rows[0]), 1, rows[1]).isAlike(0, 1), false);
        }
        CHECK.same("isAlike(0, 0)", rowOf("a").isAlike(0, 0), true);
    }

    private static void order() {
        String[][] rows = {{"", ""}, {"", "a"}, {"a", "b"}, {"a", "ab"}, {"b", "ab"}, {"\u00ff", "a"}, {"ab", "ab"}};
        int[] due = {0, -1, -1, -1, 1, 1, 0};
        for (int k = 0; k < rows.length; k++) {
            Signkinds x = with(rowOf(rows[k][0]), 1, rows[k][1]);
            CHECK.same("order(0, 1) of " + String.join(", ", rows[k]), x.order(0, 1), due[k]);
            CHECK.same("order(1, 0) of " + String.join(", ", rows[k]), x.order(1, 0), -due[k]);
            CHECK.same("order(0, 0)", x.order(0, 0), 0);
        }
    }

    private static void noSuchRow() {
        Signkinds x = new Signkinds();
        for (int row : new int[] {-1, 4, Integer.MIN_VALUE, Integer.MAX_VALUE}) {
            CHECK.io("lay", () -> x.lay(row, NONE, NONE, NONE, NONE));
            CHECK.io("drop", () -> x.drop(row, 0));
            CHECK.io("copy from", () -> x.copy(row, 0));
            CHECK.io("copy to", () -> x.copy(0, row));
            CHECK.io("copy both", () -> x.copy(row, row));
            CHECK.io("raise", () -> x.raise(row));
            CHECK.io("sink", () -> x.sink(row));
            CHECK.io("sieve", () -> x.sieve(row, 0, true));
            CHECK.io("strip", () -> x.strip(row));
            CHECK.io("turn", () -> x.turn(row));
            CHECK.io("write", () -> x.write(row, 0, 10));
            CHECK.io("spell from", () -> x.spell(row, 0));
            CHECK.io("spell to", () -> x.spell(0, row));
            CHECK.io("spell both", () -> x.spell(row, row));
            CHECK.io("read from", () -> x.read(row, 0));
            CHECK.io("read to", () -> x.read(0, row));
            CHECK.io("read both", () -> x.read(row, row));
            CHECK.io("length", () -> x.length(row));
            CHECK.io("at", () -> x.at(row, 0));
            CHECK.io("count", () -> x.count(row, 0));
            CHECK.io("first", () -> x.first(row, 0, 0));
            CHECK.io("last", () -> x.last(row, 0));
            CHECK.io("forms", () -> x.forms(row));
            CHECK.io("spelled", () -> x.spelled(row));
            CHECK.io("told", () -> x.told(row, 10));
            CHECK.io("sum", () -> x.sum(row, 10));
            CHECK.io("values", () -> x.values(row));
            CHECK.io("words", () -> x.words(row));
            CHECK.io("word", () -> x.word(row, 0, true));
            CHECK.io("isAlike", () -> x.isAlike(row, 0));
            CHECK.io("isAlike other", () -> x.isAlike(0, row));
            CHECK.io("order", () -> x.order(row, 0));
            CHECK.io("order other", () -> x.order(0, row));
        }
        CHECK.same("no step by them", x.house(2), 0);
    }
}
