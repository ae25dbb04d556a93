import java.io.IOException;
import java.util.function.BiFunction;

/** Each sentence of promises 45 to 56, what codes, units and tracks are asked for, at its edges. */
public final class TrackAskedBoundsTest {
    private static final Check CHECK = new Check("TrackAskedBoundsTest");
    private static final String NO_TRACK = "Throws `IndexOutOfBoundsException` if there is no such TRACK";
    private static final int MIN = Integer.MIN_VALUE;
    private static final int MAX = Integer.MAX_VALUE;
    private static final int[] NO_TRACKS = {MIN, -2, -1, 2, 3, MAX};
    private static final int[] NO_UNITS = {MIN, -9, -2, -1, 65536, 65537, 1114111, MAX};
    private static final int[] NO_WHATS = {MIN, -2, -1, 4, 5, MAX};
    private static final int HIGH = 55296;
    private static final int LAST_HIGH = 56319;
    private static final int LOW = 56320;
    private static final int LAST_LOW = 57343;
    private static final int WIDE = 65536;
    private static final int LAST_CODE = 1114111;

    public static void main(String[] args) throws IOException {
        Sentences said = new Sentences(CHECK).ofPromises(45, 56);
        numbers(said);
        unitsAndHalves(said);
        tracks(said);
        said.end();
    }

    private static void numbers(Sentences said) {
        said.promises(45, "Returns whether it is a CODE.", TrackAskedBoundsTest::isCode);
        said.promises(46, "Returns whether it is a PLAIN CODE.", TrackAskedBoundsTest::isPlain);
        said.promises(47, "Returns whether it is a WIDE CODE.", TrackAskedBoundsTest::isWide);
        said.promises(48, "Returns 2 if it is 65536 or more, otherwise 1.", TrackAskedBoundsTest::units);
    }

    private static void unitsAndHalves(Sentences said) {
        said.promises(49, "Returns that.", TrackAskedBoundsTest::half);
        said.promises(49, "Throws `IllegalArgumentException` if code is no WIDE CODE", TrackAskedBoundsTest::halfOfNoWide);
        said.promises(50, "Returns the CODE of both.", TrackAskedBoundsTest::code);
        said.promises(50, "Throws `IllegalArgumentException` if high is no HIGH HALF, or low no LOW one",
                TrackAskedBoundsTest::codeOfNoHalves);
        said.promises(51, "Returns that.", TrackAskedBoundsTest::ofUnit);
        said.promises(51, "Throws `IllegalArgumentException` if unit is no UNIT, or what not 0 to 3",
                TrackAskedBoundsTest::ofNoUnit);
        said.promises(52, "Returns -1 if the first one is less, 1 if it is greater, 0 if they are the same.",
                TrackAskedBoundsTest::compare);
        said.promises(52, "Throws `IllegalArgumentException` if one of both is no UNIT",
                TrackAskedBoundsTest::compareOfNoUnit);
    }

    private static void tracks(Sentences said) {
        said.promises(53, "Returns that.", TrackAskedBoundsTest::ofTrack);
        said.promises(53, NO_TRACK, () -> {
            noTrack("ofTrack", (x, track) -> x.ofTrack(track, 0));
            noTrack("ofTrack of no what", (x, track) -> x.ofTrack(track, 4));
        });
        said.promises(53, "Throws `IllegalArgumentException` if what is not 0 to 3", TrackAskedBoundsTest::ofTrackOfNoWhat);
        said.promises(54, "Returns the UNIT there.", TrackAskedBoundsTest::unit);
        said.promises(54, NO_TRACK + ", or place of it", () -> {
            noTrack("unit", (x, track) -> x.unit(track, 0));
            noPlace("unit", (x, place) -> x.unit(0, place));
        });
        said.promises(55, "Returns the CODE there.", TrackAskedBoundsTest::codeAt);
        said.promises(55, NO_TRACK + ", or place of it", () -> {
            noTrack("codeAt", (x, track) -> x.codeAt(track, 0));
            noPlace("codeAt", (x, place) -> x.codeAt(0, place));
        });
        said.promises(56, "Returns the k-th CODE.", TrackAskedBoundsTest::nth);
        said.promises(56, NO_TRACK + ", or CODE of it", () -> {
            noTrack("nth", (x, track) -> x.nth(track, 0));
            noPlace("nth", (x, k) -> x.nth(0, k));
            noCode();
        });
    }

    private static void noTrack(String call, BiFunction<Signkinds, Integer, Object> asked) {
        for (int track : NO_TRACKS) {
            CHECK.refused(call + " of the track " + track, Made::filled, x -> asked.apply(x, track), Check.INDEX);
        }
        for (int track = 0; track < 2; track++) {
            int there = track;
            Object answer = Check.outcome(() -> asked.apply(Made.filled(), there));
            CHECK.same(call + " of the track " + track + " finds no track", answer.equals(Check.INDEX), false);
        }
    }

    /** The units are plain ones, so there are as many codes as places. */
    private static void noPlace(String call, BiFunction<Signkinds, Integer, Object> asked) {
        for (int many : new int[] {0, 1, 2, 23, 24}) {
            for (int place : new int[] {MIN, -2, -1, many, many + 1, 24, 25, MAX}) {
                CHECK.refused(call + " at " + place + " of " + many, () -> Made.trackOf(many), x -> asked.apply(x, place),
                        Check.INDEX);
            }
            for (int place = 0; place < many; place++) {
                CHECK.same(call + " at " + place + " of " + many, asked.apply(Made.trackOf(many), place), place);
            }
        }
        CHECK.refused(call + " at what went", () -> cut(Made.trackOf(3), 1), x -> asked.apply(x, 2), Check.INDEX);
    }

    private static Signkinds cut(Signkinds x, int many) {
        x.cut(0, many);
        return x;
    }

    private static void isCode() {
        for (int number : new int[] {0, 1, HIGH, LAST_LOW, 65535, WIDE, LAST_CODE - 1, LAST_CODE}) {
            CHECK.same("isCode(" + number + ")", new Signkinds().isCode(number), true);
        }
        for (int number : new int[] {MIN, MIN + 1, -WIDE, -2, -1, LAST_CODE + 1, LAST_CODE + 2, MAX - 1, MAX}) {
            CHECK.same("isCode(" + number + ")", new Signkinds().isCode(number), false);
        }
    }

    private static void isPlain() {
        for (int number : new int[] {0, 1, HIGH, LAST_HIGH, LOW, LAST_LOW, 65534, 65535}) {
            CHECK.same("isPlain(" + number + ")", new Signkinds().isPlain(number), true);
        }
        for (int number : new int[] {MIN, -WIDE, -2, -1, WIDE, WIDE + 1, LAST_CODE, LAST_CODE + 1, MAX}) {
            CHECK.same("isPlain(" + number + ")", new Signkinds().isPlain(number), false);
        }
    }

    private static void isWide() {
        for (int number : new int[] {WIDE, WIDE + 1, LAST_CODE - 1, LAST_CODE}) {
            CHECK.same("isWide(" + number + ")", new Signkinds().isWide(number), true);
        }
        for (int number : new int[] {MIN, -WIDE, -1, 0, HIGH, LAST_LOW, 65534, 65535, LAST_CODE + 1, LAST_CODE + 2, MAX}) {
            CHECK.same("isWide(" + number + ")", new Signkinds().isWide(number), false);
        }
    }

    private static void units() {
        for (int number : new int[] {WIDE, WIDE + 1, LAST_CODE, LAST_CODE + 1, MAX}) {
            CHECK.same("units(" + number + ")", new Signkinds().units(number), 2);
        }
        for (int number : new int[] {MIN, -WIDE, -1, 0, HIGH, LOW, 65534, 65535}) {
            CHECK.same("units(" + number + ")", new Signkinds().units(number), 1);
        }
    }

    private static void half() {
        int[] codes = {WIDE, WIDE + 1023, WIDE + 1024, LAST_CODE - 1024, LAST_CODE - 1023, LAST_CODE};
        int[] high = {HIGH, HIGH, HIGH + 1, LAST_HIGH - 1, LAST_HIGH, LAST_HIGH};
        int[] low = {LOW, LAST_LOW, LOW, LAST_LOW, LOW, LAST_LOW};
        Signkinds x = new Signkinds();
        for (int k = 0; k < codes.length; k++) {
            CHECK.same("half(" + codes[k] + ", true)", x.half(codes[k], true), high[k]);
            CHECK.same("half(" + codes[k] + ", false)", x.half(codes[k], false), low[k]);
        }
    }

    private static void halfOfNoWide() {
        for (int code : new int[] {MIN, -1, 0, HIGH, LOW, 65534, 65535, LAST_CODE + 1, LAST_CODE + 2, MAX}) {
            CHECK.refused("half(" + code + ", true)", Made::filled, x -> x.half(code, true), Check.ARGUMENT);
            CHECK.refused("half(" + code + ", false)", Made::filled, x -> x.half(code, false), Check.ARGUMENT);
        }
    }

    private static void code() {
        int[][] cases = {{HIGH, LOW, WIDE}, {HIGH, LAST_LOW, WIDE + 1023}, {HIGH + 1, LOW, WIDE + 1024},
            {LAST_HIGH, LOW, LAST_CODE - 1023}, {LAST_HIGH, LAST_LOW, LAST_CODE}, {55357, 56832, 128512}};
        Signkinds x = new Signkinds();
        for (int[] one : cases) {
            CHECK.same("code(" + one[0] + ", " + one[1] + ")", x.code(one[0], one[1]), one[2]);
        }
    }

    private static void codeOfNoHalves() {
        for (int high : new int[] {MIN, -1, 0, HIGH - 1, LOW, LAST_LOW, LAST_LOW + 1, 65535, WIDE + HIGH, MAX}) {
            CHECK.refused("code(" + high + ", LOW)", Made::filled, x -> x.code(high, LOW), Check.ARGUMENT);
            CHECK.refused("code(" + high + ", LAST_LOW)", Made::filled, x -> x.code(high, LAST_LOW), Check.ARGUMENT);
            CHECK.refused("code(" + high + ", 0)", Made::filled, x -> x.code(high, 0), Check.ARGUMENT);
        }
        for (int low : new int[] {MIN, -1, 0, HIGH, LAST_HIGH, LAST_LOW + 1, 65535, WIDE + LOW, MAX}) {
            CHECK.refused("code(HIGH, " + low + ")", Made::filled, x -> x.code(HIGH, low), Check.ARGUMENT);
            CHECK.refused("code(LAST_HIGH, " + low + ")", Made::filled, x -> x.code(LAST_HIGH, low), Check.ARGUMENT);
        }
    }

    private static void ofUnit() {
        int[] units = {0, HIGH - 1, HIGH, LAST_HIGH, LOW, LAST_LOW, LAST_LOW + 1, 65535};
        int[] high = {0, 0, 1, 1, 0, 0, 0, 0};
        int[] low = {0, 0, 0, 0, 1, 1, 0, 0};
        int[] turned = {0, 65495, 216, 65499, 220, 65503, 224, 65535};
        Signkinds x = new Signkinds();
        for (int k = 0; k < units.length; k++) {
            CHECK.same("ofUnit(" + units[k] + ", 0)", x.ofUnit(units[k], 0), high[k] + low[k]);
            CHECK.same("ofUnit(" + units[k] + ", 1)", x.ofUnit(units[k], 1), high[k]);
            CHECK.same("ofUnit(" + units[k] + ", 2)", x.ofUnit(units[k], 2), low[k]);
            CHECK.same("ofUnit(" + units[k] + ", 3)", x.ofUnit(units[k], 3), turned[k]);
        }
    }

    private static void ofNoUnit() {
        for (int unit : NO_UNITS) {
            for (int what = -1; what <= 4; what++) {
                int asked = what;
                CHECK.refused("ofUnit(" + unit + ", " + what + ")", Made::filled, x -> x.ofUnit(unit, asked),
                        Check.ARGUMENT);
            }
        }
        for (int what : NO_WHATS) {
            CHECK.refused("ofUnit(0, " + what + ")", Made::filled, x -> x.ofUnit(0, what), Check.ARGUMENT);
            CHECK.refused("ofUnit(65535, " + what + ")", Made::filled, x -> x.ofUnit(65535, what), Check.ARGUMENT);
        }
    }

    private static void compare() {
        int[][] less = {{0, 1}, {0, 65535}, {65534, 65535}, {HIGH, LOW}, {32767, 32768}};
        Signkinds x = new Signkinds();
        for (int[] one : less) {
            CHECK.same("compare(" + one[0] + ", " + one[1] + ")", x.compare(one[0], one[1]), -1);
            CHECK.same("compare(" + one[1] + ", " + one[0] + ")", x.compare(one[1], one[0]), 1);
            CHECK.same("compare(" + one[0] + ", itself)", x.compare(one[0], one[0]), 0);
            CHECK.same("compare(" + one[1] + ", itself)", x.compare(one[1], one[1]), 0);
        }
    }

    private static void compareOfNoUnit() {
        for (int unit : NO_UNITS) {
            CHECK.refused("compare(" + unit + ", 0)", Made::filled, x -> x.compare(unit, 0), Check.ARGUMENT);
            CHECK.refused("compare(0, " + unit + ")", Made::filled, x -> x.compare(0, unit), Check.ARGUMENT);
            CHECK.refused("compare(" + unit + ", itself)", Made::filled, x -> x.compare(unit, unit), Check.ARGUMENT);
        }
    }

    private static void ofTrack() {
        int[][] tracks = {{}, {7}, {HIGH}, {LOW}, {HIGH, LOW}, {LOW, HIGH}, {7, HIGH, LOW, LOW}, {HIGH, LOW, LAST_HIGH, LAST_LOW},
            {HIGH, HIGH, LOW}};
        int[][] due = {{0, 0, 0, 0}, {1, 1, 0, 0}, {1, 1, 0, 1}, {1, 1, 0, 1}, {2, 1, 1, 0}, {2, 2, 0, 2}, {4, 3, 1, 1},
            {4, 2, 2, 0}, {3, 2, 1, 1}};
        for (int k = 0; k < tracks.length; k++) {
            Signkinds x = Made.track(tracks[k]);
            for (int what = 0; what < 4; what++) {
                CHECK.same("ofTrack(0, " + what + ") of case " + k, x.ofTrack(0, what), due[k][what]);
                CHECK.same("ofTrack(1, " + what + ") of case " + k, x.ofTrack(1, what), 0);
            }
        }
        full();
        int[] went = {1, 1, 0, 1};
        for (int what = 0; what < 4; what++) {
            int got = cut(Made.track(HIGH, LOW), 1).ofTrack(0, what);
            CHECK.same("ofTrack(0, " + what + ") without what went", got, went[what]);
        }
    }

    /** The tracks are full: of 24 plain ones, and of 12 wide ones. */
    private static void full() {
        Signkinds x = Made.trackOf(24);
        for (int k = 0; k < 12; k++) {
            x.send(1, WIDE + k);
        }
        int[] plain = {24, 24, 0, 0};
        int[] wide = {24, 12, 12, 0};
        for (int what = 0; what < 4; what++) {
            CHECK.same("ofTrack(0, " + what + ") of 24 plain ones", x.ofTrack(0, what), plain[what]);
            CHECK.same("ofTrack(1, " + what + ") of 12 wide ones", x.ofTrack(1, what), wide[what]);
        }
    }

    private static void ofTrackOfNoWhat() {
        for (int what : NO_WHATS) {
            CHECK.refused("ofTrack(0, " + what + ")", Made::filled, x -> x.ofTrack(0, what), Check.ARGUMENT);
            CHECK.refused("ofTrack(0, " + what + ") of none", Signkinds::new, x -> x.ofTrack(0, what), Check.ARGUMENT);
        }
    }

    private static void unit() {
        Signkinds x = Made.track(0, HIGH, LOW, 65535);
        int[] due = {0, HIGH, LOW, 65535};
        for (int place = 0; place < 4; place++) {
            CHECK.same("unit(0, " + place + ")", x.unit(0, place), due[place]);
        }
        CHECK.same("unit(0, 23)", Made.trackOf(24).unit(0, 23), 23);
    }

    private static void codeAt() {
        Signkinds x = Made.track(0, HIGH, LOW, LAST_HIGH, LAST_LOW, LOW, HIGH);
        int[] due = {0, WIDE, LOW, LAST_CODE, LAST_LOW, LOW, HIGH};
        for (int place = 0; place < due.length; place++) {
            CHECK.same("codeAt(0, " + place + ")", x.codeAt(0, place), due[place]);
        }
        CHECK.same("codeAt(0, 0) without what went", cut(Made.track(HIGH, LOW), 1).codeAt(0, 0), HIGH);
    }

    private static void nth() {
        Signkinds x = Made.track(LOW, HIGH, LOW, 7, HIGH, LAST_HIGH, LAST_LOW);
        int[] due = {LOW, WIDE, 7, HIGH, LAST_CODE};
        for (int k = 0; k < due.length; k++) {
            CHECK.same("nth(0, " + k + ")", x.nth(0, k), due[k]);
        }
        CHECK.same("nth(0, 0) without what went", cut(Made.track(HIGH, LOW), 1).nth(0, 0), HIGH);
    }

    /** There are fewer codes than places, where there are wide ones. */
    private static void noCode() {
        CHECK.refused("nth(0, 1) of a wide one", () -> Made.track(HIGH, LOW), x -> x.nth(0, 1), Check.INDEX);
        CHECK.refused("nth(0, 2) of one and a wide one", () -> Made.track(7, HIGH, LOW), x -> x.nth(0, 2), Check.INDEX);
        Signkinds x = new Signkinds();
        for (int k = 0; k < 12; k++) {
            x.send(0, WIDE + k);
        }
        CHECK.same("nth(0, 11) of 12 wide ones", x.nth(0, 11), WIDE + 11);
        CHECK.io("nth(0, 12) of 12 wide ones", () -> x.nth(0, 12));
        CHECK.io("nth(0, 23) of 12 wide ones", () -> x.nth(0, 23));
    }
}
