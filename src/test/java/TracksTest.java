/** Promises 13 to 17 and 45 to 56, a method each: ordinary calls, the edges, and wrong ones. */
public final class TracksTest {
    private static final Check CHECK = new Check("TracksTest");
    private static final int HIGH = 55296;
    private static final int LOW = 56320;
    private static final int WIDE = 65536;
    private static final int MIN = Integer.MIN_VALUE;
    private static final int MAX = Integer.MAX_VALUE;

    public static void main(String[] args) {
        send();
        put();
        cut();
        flip();
        reverse();
        numbers();
        half();
        code();
        ofUnit();
        compare();
        ofTrack();
        unit();
        codeAt();
        nth();
        noSuchTrack();
        CHECK.end();
    }

    private static Signkinds trackOf(int... units) {
        Signkinds x = new Signkinds();
        for (int unit : units) {
            x.put(0, unit);
        }
        return x;
    }

    private static Signkinds full(int many) {
        Signkinds x = new Signkinds();
        for (int k = 0; k < many; k++) {
            x.put(0, k);
        }
        return x;
    }

    private static void holds(String told, Signkinds x, int track, int... due) {
        StringBuilder got = new StringBuilder();
        for (int place = 0; place < x.ofTrack(track, 0); place++) {
            got.append(x.unit(track, place)).append(' ');
        }
        StringBuilder wanted = new StringBuilder();
        for (int unit : due) {
            wanted.append(unit).append(' ');
        }
        CHECK.same(told, got.toString(), wanted.toString());
    }

    private static void send() {
        Signkinds x = new Signkinds();
        CHECK.same("send(0, 65)", x.send(0, 65), 1);
        CHECK.same("send(0, 65536)", x.send(0, WIDE), 3);
        CHECK.same("send(0, 1114111)", x.send(0, 1114111), 5);
        CHECK.same("send(0, 65535)", x.send(0, 65535), 6);
        CHECK.same("send(0, 0)", x.send(0, 0), 7);
        CHECK.same("send(0, 56320), a half", x.send(0, LOW), 8);
        holds("the track 0", x, 0, 65, HIGH, LOW, 56319, 57343, 65535, 0, LOW);
        CHECK.same("send(1, 128512)", x.send(1, 128512), 2);
        holds("the track 1", x, 1, 55357, 56832);
        long before = x.digest();
        CHECK.illegal("send(0, -1)", () -> x.send(0, -1));
        CHECK.illegal("send(0, 1114112)", () -> x.send(0, 1114112));
        CHECK.illegal("send(0, MIN)", () -> x.send(0, MIN));
        CHECK.illegal("send(0, MAX)", () -> x.send(0, MAX));
        CHECK.io("send(2, -1)", () -> x.send(2, -1));
        CHECK.same("nothing changed", x.digest(), before);
        Signkinds y = full(23);
        before = y.digest();
        CHECK.same("send(0, 65536) behind 23", y.send(0, WIDE), -9);
        CHECK.same("nothing changed", y.digest(), before);
        CHECK.same("send(0, 65535) behind 23", y.send(0, 65535), 24);
        CHECK.same("send(0, 0) behind 24", y.send(0, 0), -9);
        CHECK.illegal("send(0, -1) behind 24", () -> y.send(0, -1));
        CHECK.same("send(0, 65536) behind 22", full(22).send(0, WIDE), 24);
    }

    private static void put() {
        Signkinds x = new Signkinds();
        CHECK.same("put(0, 0)", x.put(0, 0), 1);
        CHECK.same("put(0, 65535)", x.put(0, 65535), 2);
        CHECK.same("put(0, 55296)", x.put(0, HIGH), 3);
        holds("the track 0", x, 0, 0, 65535, HIGH);
        CHECK.illegal("put(0, 65536)", () -> x.put(0, WIDE));
        CHECK.illegal("put(0, -1)", () -> x.put(0, -1));
        CHECK.io("put(-1, -1)", () -> x.put(-1, -1));
        CHECK.same("steps", x.house(2), 3);
        Signkinds y = full(24);
        long before = y.digest();
        CHECK.same("put(0, 1) behind 24", y.put(0, 1), -9);
        CHECK.illegal("put(0, 65536) behind 24", () -> y.put(0, WIDE));
        CHECK.same("nothing changed", y.digest(), before);
        CHECK.same("put(1, 1)", y.put(1, 1), 1);
    }

    private static void cut() {
        Signkinds x = trackOf(1, HIGH, LOW);
        CHECK.same("cut(0, 1)", x.cut(0, 1), 2);
        holds("the track 0", x, 0, 1, HIGH);
        CHECK.same("cut(0, 0)", x.cut(0, 0), 2);
        CHECK.illegal("cut(0, 3)", () -> x.cut(0, 3));
        CHECK.illegal("cut(0, -1)", () -> x.cut(0, -1));
        CHECK.illegal("cut(0, MIN)", () -> x.cut(0, MIN));
        CHECK.illegal("cut(0, MAX)", () -> x.cut(0, MAX));
        CHECK.io("cut(2, -1)", () -> x.cut(2, -1));
        CHECK.same("steps", x.house(2), 5);
        CHECK.same("cut(0, 2)", x.cut(0, 2), 0);
        CHECK.illegal("cut(0, 1) of none", () -> x.cut(0, 1));
    }

    private static void flip() {
        Signkinds x = trackOf(216, 223, 224, 258, 65535, 215, HIGH);
        CHECK.same("flip(0)", x.flip(0), 2);
        holds("the track 0", x, 0, HIGH, 57088, 57344, 513, 65535, 55040, 216);
        CHECK.same("flip(0) again", x.flip(0), 1);
        holds("the track 0", x, 0, 216, 223, 224, 258, 65535, 215, HIGH);
        CHECK.same("flip(1)", x.flip(1), 0);
    }

    private static void reverse() {
        Signkinds x = trackOf(1, HIGH, LOW, 2);
        CHECK.same("reverse(0)", x.reverse(0), 3);
        holds("the track 0", x, 0, 2, HIGH, LOW, 1);
        Signkinds lone = trackOf(LOW, HIGH);
        CHECK.same("ofTrack(0, 1) ahead", lone.ofTrack(0, 1), 2);
        CHECK.same("reverse(0) of lone halves", lone.reverse(0), 1);
        holds("the track 0", lone, 0, HIGH, LOW);
        CHECK.same("codeAt(0, 0)", lone.codeAt(0, 0), WIDE);
        Signkinds pairs = trackOf(LOW, HIGH, LOW, HIGH);
        CHECK.same("reverse(0) of a code among lone halves", pairs.reverse(0), 3);
        holds("the track 0", pairs, 0, HIGH, HIGH, LOW, LOW);
        Signkinds highs = trackOf(HIGH, HIGH + 1, LOW);
        CHECK.same("reverse(0) of two high ones", highs.reverse(0), 2);
        holds("the track 0", highs, 0, HIGH + 1, LOW, HIGH);
        CHECK.same("reverse(1)", x.reverse(1), 0);
        Signkinds most = full(24);
        CHECK.same("reverse(0) of 24", most.reverse(0), 24);
        CHECK.same("unit(0, 0)", most.unit(0, 0), 23);
        CHECK.same("unit(0, 23)", most.unit(0, 23), 0);
    }

    private static void numbers() {
        int[] numbers = {MIN, -1, 0, 65, HIGH, 57343, 65535, WIDE, 128512, 1114111, 1114112, MAX};
        boolean[] plain = {false, false, true, true, true, true, true, false, false, false, false, false};
        boolean[] wide = {false, false, false, false, false, false, false, true, true, true, false, false};
        int[] units = {1, 1, 1, 1, 1, 1, 1, 2, 2, 2, 2, 2};
        Signkinds x = new Signkinds();
        for (int k = 0; k < numbers.length; k++) {
            CHECK.same("isCode(" + numbers[k] + ")", x.isCode(numbers[k]), plain[k] || wide[k]);
            CHECK.same("isPlain(" + numbers[k] + ")", x.isPlain(numbers[k]), plain[k]);
            CHECK.same("isWide(" + numbers[k] + ")", x.isWide(numbers[k]), wide[k]);
            CHECK.same("units(" + numbers[k] + ")", x.units(numbers[k]), units[k]);
        }
    }

    private static void half() {
        for (int code : new int[] {WIDE, WIDE + 1, WIDE + 1023, WIDE + 1024, 128512, 1114110, 1114111}) {
            Signkinds x = new Signkinds();
            CHECK.same("half(" + code + ", true)", x.half(code, true), (int) Character.highSurrogate(code));
            CHECK.same("half(" + code + ", false)", x.half(code, false), (int) Character.lowSurrogate(code));
        }
        Signkinds x = new Signkinds();
        for (int code : new int[] {MIN, -1, 0, 65535, 1114112, MAX}) {
            CHECK.illegal("half(" + code + ", true)", () -> x.half(code, true));
            CHECK.illegal("half(" + code + ", false)", () -> x.half(code, false));
        }
    }

    private static void code() {
        Signkinds x = new Signkinds();
        CHECK.same("code of the least", x.code(HIGH, LOW), WIDE);
        CHECK.same("code of the greatest", x.code(56319, 57343), 1114111);
        CHECK.same("code of both", x.code(55357, 56832), 128512);
        CHECK.illegal("code(LOW, LOW)", () -> x.code(LOW, LOW));
        CHECK.illegal("code(HIGH, HIGH)", () -> x.code(HIGH, HIGH));
        CHECK.illegal("code(LOW, HIGH)", () -> x.code(LOW, HIGH));
        CHECK.illegal("code(HIGH - 1, LOW)", () -> x.code(HIGH - 1, LOW));
        CHECK.illegal("code(HIGH, 57344)", () -> x.code(HIGH, 57344));
        CHECK.illegal("code(HIGH, 56319)", () -> x.code(HIGH, 56319));
        CHECK.illegal("code(MIN, MAX)", () -> x.code(MIN, MAX));
    }

    private static void ofUnit() {
        Signkinds x = new Signkinds();
        int[] units = {0, 55295, HIGH, 56319, LOW, 57343, 57344, 258, 255, 65535};
        int[] high = {0, 0, 1, 1, 0, 0, 0, 0, 0, 0};
        int[] low = {0, 0, 0, 0, 1, 1, 0, 0, 0, 0};
        int[] turned = {0, 65495, 216, 65499, 220, 65503, 224, 513, 65280, 65535};
        for (int k = 0; k < units.length; k++) {
            CHECK.same("ofUnit(" + units[k] + ", 0)", x.ofUnit(units[k], 0), high[k] + low[k]);
            CHECK.same("ofUnit(" + units[k] + ", 1)", x.ofUnit(units[k], 1), high[k]);
            CHECK.same("ofUnit(" + units[k] + ", 2)", x.ofUnit(units[k], 2), low[k]);
            CHECK.same("ofUnit(" + units[k] + ", 3)", x.ofUnit(units[k], 3), turned[k]);
        }
        CHECK.illegal("ofUnit(0, 4)", () -> x.ofUnit(0, 4));
        CHECK.illegal("ofUnit(0, -1)", () -> x.ofUnit(0, -1));
        CHECK.illegal("ofUnit(65536, 3)", () -> x.ofUnit(WIDE, 3));
        CHECK.illegal("ofUnit(-1, 0)", () -> x.ofUnit(-1, 0));
    }

    private static void compare() {
        Signkinds x = new Signkinds();
        CHECK.same("compare(0, 65535)", x.compare(0, 65535), -1);
        CHECK.same("compare(65535, 0)", x.compare(65535, 0), 1);
        CHECK.same("compare(7, 7)", x.compare(7, 7), 0);
        CHECK.illegal("compare(-1, 0)", () -> x.compare(-1, 0));
        CHECK.illegal("compare(0, -1)", () -> x.compare(0, -1));
        CHECK.illegal("compare(65536, 0)", () -> x.compare(WIDE, 0));
        CHECK.illegal("compare(0, 65536)", () -> x.compare(0, WIDE));
    }

    private static void ofTrack() {
        Signkinds x = trackOf(LOW, HIGH, LOW, 65, HIGH, HIGH, LOW, LOW, HIGH);
        int[] due = {9, 7, 2, 4};
        for (int what = 0; what < 4; what++) {
            CHECK.same("ofTrack(0, " + what + ")", x.ofTrack(0, what), due[what]);
            CHECK.same("ofTrack(1, " + what + ")", x.ofTrack(1, what), 0);
        }
        CHECK.illegal("ofTrack(0, 4)", () -> x.ofTrack(0, 4));
        CHECK.illegal("ofTrack(0, -1)", () -> x.ofTrack(0, -1));
        CHECK.io("ofTrack(2, 4)", () -> x.ofTrack(2, 4));
    }

    private static void unit() {
        Signkinds x = trackOf(7, HIGH, LOW);
        CHECK.same("unit(0, 0)", x.unit(0, 0), 7);
        CHECK.same("unit(0, 2)", x.unit(0, 2), LOW);
        CHECK.io("unit(0, 3)", () -> x.unit(0, 3));
        CHECK.io("unit(0, -1)", () -> x.unit(0, -1));
        CHECK.io("unit(1, 0)", () -> x.unit(1, 0));
    }

    private static void codeAt() {
        Signkinds x = trackOf(7, HIGH, LOW, HIGH);
        int[] due = {7, WIDE, LOW, HIGH};
        for (int place = 0; place < 4; place++) {
            CHECK.same("codeAt(0, " + place + ")", x.codeAt(0, place), due[place]);
        }
        CHECK.io("codeAt(0, 4)", () -> x.codeAt(0, 4));
        CHECK.io("codeAt(0, -1)", () -> x.codeAt(0, -1));
        CHECK.io("codeAt(0, MAX)", () -> x.codeAt(0, MAX));
        CHECK.io("codeAt(1, 0)", () -> x.codeAt(1, 0));
        x.put(0, LOW);
        x.cut(0, 1);
        CHECK.same("codeAt(0, 3) with a low one that went", x.codeAt(0, 3), HIGH);
    }

    private static void nth() {
        Signkinds x = trackOf(7, HIGH, LOW, HIGH, HIGH + 1, LOW + 1, LOW);
        int[] due = {7, WIDE, HIGH, WIDE + 1025, LOW};
        for (int k = 0; k < due.length; k++) {
            CHECK.same("nth(0, " + k + ")", x.nth(0, k), due[k]);
        }
        CHECK.io("nth(0, 5)", () -> x.nth(0, 5));
        CHECK.io("nth(0, -1)", () -> x.nth(0, -1));
        CHECK.io("nth(0, MAX)", () -> x.nth(0, MAX));
        CHECK.io("nth(1, 0)", () -> x.nth(1, 0));
    }

    private static void noSuchTrack() {
        Signkinds x = new Signkinds();
        for (int track : new int[] {-1, 2, MIN, MAX}) {
            CHECK.io("send", () -> x.send(track, 0));
            CHECK.io("put", () -> x.put(track, 0));
            CHECK.io("cut", () -> x.cut(track, 0));
            CHECK.io("flip", () -> x.flip(track));
            CHECK.io("reverse", () -> x.reverse(track));
            CHECK.io("ofTrack", () -> x.ofTrack(track, 0));
            CHECK.io("unit", () -> x.unit(track, 0));
            CHECK.io("codeAt", () -> x.codeAt(track, 0));
            CHECK.io("nth", () -> x.nth(track, 0));
        }
        CHECK.same("no step by them", x.house(2), 0);
    }
}
