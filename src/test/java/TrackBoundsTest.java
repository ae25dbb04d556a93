import java.io.IOException;
import java.util.ArrayList;
import java.util.Collections;
import java.util.List;
import java.util.function.BiFunction;

/** Each sentence of part 3 of the document, "Codes, units, tracks", and of promises 13 to 17, at its edges. */
public final class TrackBoundsTest {
    private static final Check CHECK = new Check("TrackBoundsTest");
    private static final String NO_TRACK = "Throws `IndexOutOfBoundsException` if there is no such TRACK";
    private static final int NOT_DONE = -9;
    private static final int MIN = Integer.MIN_VALUE;
    private static final int MAX = Integer.MAX_VALUE;
    private static final int[] NO_TRACKS = {MIN, -2, -1, 2, 3, MAX};
    private static final int HIGH = 55296;
    private static final int LAST_HIGH = 56319;
    private static final int LOW = 56320;
    private static final int LAST_LOW = 57343;
    private static final int WIDE = 65536;
    private static final int LAST_CODE = 1114111;

    public static void main(String[] args) throws IOException {
        Sentences said = new Sentences(CHECK).ofPart("3. Codes, units, tracks", "4. Steps back").ofPromises(13, 17);
        codesAndUnits(said);
        tracks(said);
        sendPutCut(said);
        flipReverse(said);
        said.end();
    }

    private static void codesAndUnits(Sentences said) {
        said.says("UNITS are 0 to 65535.", TrackBoundsTest::unitsAre);
        said.says("HALVES: HIGH ones are 55296 to 56319, LOW ones 56320 to 57343.", TrackBoundsTest::halves);
        said.says("CODES are 0 to 1114111; PLAIN ones are 0 to 65535 (HALVES, too), WIDE ones the others.",
                TrackBoundsTest::codesAre);
        said.says("A WIDE CODE c is sent as two HALVES: the HIGH one 55296 + (c - 65536) / 1024, the LOW one 56320 + (the"
                + " rest of (c - 65536) by 1024); the CODE of both is c.", TrackBoundsTest::wideIsSent);
        said.says("A PLAIN one is sent as one UNIT, itself.", TrackBoundsTest::plainIsSent);
        said.says("A UNIT, TURNED, is its rest by 256, times 256, and itself / 256.", TrackBoundsTest::turned);
    }

    private static void tracks(Sentences said) {
        said.says("TRACKS are 0 and 1; each has UNITS at the places from 0 on, at most 24 (none at first).",
                TrackBoundsTest::tracksAre);
        said.says("The CODE at a place of a TRACK: that of both, if a HIGH HALF stands there and a LOW one behind it;"
                + " otherwise the UNIT.", TrackBoundsTest::codeAtPlace);
        said.says("The CODES of a TRACK: that at the place 0; then that at the place behind all UNITS of the one ahead, and"
                + " so on.", TrackBoundsTest::codesOfTrack);
        said.says("A LONE HALF: a HALF that is one of the CODES of the TRACK by itself.", TrackBoundsTest::loneHalves);
        said.says("To SEND a CODE: its UNITS come behind those of a TRACK.", TrackBoundsTest::sentBehind);
        said.says("To TURN a TRACK: each UNIT is TURNED, and stays at its place.", TrackBoundsTest::turnedTrack);
        said.says("To REVERSE a TRACK: its CODES (as they were) stand the other way round, each as its UNITS (two LONE"
                + " HALVES that come beside each other so may be one CODE then).", TrackBoundsTest::reversedTrack);
    }

    private static void sendPutCut(Sentences said) {
        said.promises(13, "Returns how many UNITS the TRACK has then; -9 if it would have more than 24.",
                TrackBoundsTest::send);
        said.promises(13, NO_TRACK, () -> noTrack("send", (x, track) -> x.send(track, -1), (x, track) -> x.send(track, 0)));
        said.promises(13, "Throws `IllegalArgumentException` if code is no CODE", TrackBoundsTest::sendOfNoCode);
        said.promises(14, "Returns how many it has then; -9 if it would have more than 24.", TrackBoundsTest::put);
        said.promises(14, NO_TRACK, () -> noTrack("put", (x, track) -> x.put(track, -1), (x, track) -> x.put(track, 0)));
        said.promises(14, "Throws `IllegalArgumentException` if unit is no UNIT", TrackBoundsTest::putOfNoUnit);
        said.promises(15, "Returns how many it has then.", TrackBoundsTest::cut);
        said.promises(15, NO_TRACK, () -> noTrack("cut", (x, track) -> x.cut(track, -1), (x, track) -> x.cut(track, 0)));
        said.promises(15, "Throws `IllegalArgumentException` if many is below 0, or more than it has",
                TrackBoundsTest::cutOfTooMany);
    }

    private static void flipReverse(Sentences said) {
        said.promises(16, "Returns how many of its UNITS are HALVES then.", TrackBoundsTest::flip);
        said.promises(16, NO_TRACK, () -> noTrack("flip", Signkinds::flip, Signkinds::flip));
        said.promises(17, "Returns how many CODES it has then.", TrackBoundsTest::reverse);
        said.promises(17, NO_TRACK, () -> noTrack("reverse", Signkinds::reverse, Signkinds::reverse));
    }

    /** A call of a track; the call whose other arguments are wrong too must tell of the track first. */
    private static void noTrack(String call, BiFunction<Signkinds, Integer, Object> allWrong,
            BiFunction<Signkinds, Integer, Object> right) {
        for (int track : NO_TRACKS) {
            CHECK.refused(call + ", all wrong, in the track " + track, Made::filled, x -> allWrong.apply(x, track),
                    Check.INDEX);
            CHECK.refused(call + " in the track " + track, Made::filled, x -> right.apply(x, track), Check.INDEX);
            CHECK.refused(call + " in the track " + track + " by full ones", TrackBoundsTest::bothFull,
                    x -> right.apply(x, track), Check.INDEX);
        }
        for (int track = 0; track < 2; track++) {
            int there = track;
            Object answer = Check.outcome(() -> right.apply(Made.filled(), there));
            CHECK.same(call + " in the track " + track + " tells a number", answer instanceof Integer, true);
        }
    }

    private static Signkinds bothFull() {
        Signkinds x = Made.trackOf(24);
        for (int k = 0; k < 12; k++) {
            x.send(1, LAST_CODE);
        }
        return x;
    }

    private static void unitsAre() {
        for (int unit : new int[] {0, 1, 65534, 65535}) {
            CHECK.same("put(0, " + unit + ")", new Signkinds().put(0, unit), 1);
            CHECK.same("unit(0, 0) of " + unit, Made.track(unit).unit(0, 0), unit);
            CHECK.same("compare(" + unit + ", itself)", new Signkinds().compare(unit, unit), 0);
            CHECK.same("ofUnit(" + unit + ", 0)", new Signkinds().ofUnit(unit, 0), 0);
        }
        for (int unit : new int[] {MIN, -1, WIDE, MAX}) {
            CHECK.refused("put(0, " + unit + ")", Made::filled, x -> x.put(0, unit), Check.ARGUMENT);
            CHECK.refused("compare(" + unit + ", 0)", Made::filled, x -> x.compare(unit, 0), Check.ARGUMENT);
            CHECK.refused("ofUnit(" + unit + ", 0)", Made::filled, x -> x.ofUnit(unit, 0), Check.ARGUMENT);
        }
    }

    private static void halves() {
        int[] units = {0, 55295, HIGH, HIGH + 1, 56318, LAST_HIGH, LOW, LOW + 1, 57342, LAST_LOW, 57344, 65535};
        int[] high = {0, 0, 1, 1, 1, 1, 0, 0, 0, 0, 0, 0};
        int[] low = {0, 0, 0, 0, 0, 0, 1, 1, 1, 1, 0, 0};
        Signkinds x = new Signkinds();
        for (int k = 0; k < units.length; k++) {
            CHECK.same(units[k] + " is a half", x.ofUnit(units[k], 0), high[k] + low[k]);
            CHECK.same(units[k] + " is a high one", x.ofUnit(units[k], 1), high[k]);
            CHECK.same(units[k] + " is a low one", x.ofUnit(units[k], 2), low[k]);
            CHECK.same(units[k] + " is a lone half", Made.track(units[k]).ofTrack(0, 3), high[k] + low[k]);
            CHECK.same(units[k] + " ahead of a low one", Made.track(units[k], LOW).ofTrack(0, 1), 2 - high[k]);
            CHECK.same(units[k] + " behind a high one", Made.track(HIGH, units[k]).ofTrack(0, 1), 2 - low[k]);
        }
    }

    private static void codesAre() {
        int[] numbers = {MIN, -1, 0, HIGH, LAST_LOW, 65535, WIDE, LAST_CODE, LAST_CODE + 1, MAX};
        int[] isWhat = {0, 0, 1, 1, 1, 1, 2, 2, 0, 0};
        Signkinds x = new Signkinds();
        for (int k = 0; k < numbers.length; k++) {
            int number = numbers[k];
            CHECK.same(number + " is a code", x.isCode(number), isWhat[k] != 0);
            CHECK.same(number + " is a plain one", x.isPlain(number), isWhat[k] == 1);
            CHECK.same(number + " is a wide one", x.isWide(number), isWhat[k] == 2);
            Object due = isWhat[k] == 0 ? Check.ARGUMENT : (Object) isWhat[k];
            CHECK.same(number + " is sent", Check.outcome(() -> new Signkinds().send(0, number)), due);
        }
    }

    private static void wideIsSent() {
        int[] codes = {WIDE, WIDE + 1, WIDE + 1023, WIDE + 1024, WIDE + 1025, WIDE + 2047, WIDE + 2048, 128512,
            LAST_CODE - 1024, LAST_CODE - 1023, LAST_CODE - 1, LAST_CODE};
        int[] high = {HIGH, HIGH, HIGH, HIGH + 1, HIGH + 1, HIGH + 1, HIGH + 2, 55357, 56318, LAST_HIGH, LAST_HIGH,
            LAST_HIGH};
        int[] low = {LOW, LOW + 1, LAST_LOW, LOW, LOW + 1, LAST_LOW, LOW, 56832, LAST_LOW, LOW, 57342, LAST_LOW};
        for (int k = 0; k < codes.length; k++) {
            Signkinds x = new Signkinds();
            CHECK.same("send(1, " + codes[k] + ")", x.send(1, codes[k]), 2);
            CHECK.same("the units of " + codes[k], Made.units(x, 1), List.of(high[k], low[k]));
            CHECK.same("the code at their place", x.codeAt(1, 0), codes[k]);
            CHECK.same("half(" + codes[k] + ", true)", x.half(codes[k], true), high[k]);
            CHECK.same("half(" + codes[k] + ", false)", x.half(codes[k], false), low[k]);
            CHECK.same("code() of both", x.code(high[k], low[k]), codes[k]);
        }
    }

    private static void plainIsSent() {
        for (int code : new int[] {0, 65, 55295, HIGH, LAST_HIGH, LOW, LAST_LOW, 57344, 65535}) {
            Signkinds x = new Signkinds();
            CHECK.same("send(1, " + code + ")", x.send(1, code), 1);
            CHECK.same("the units of " + code, Made.units(x, 1), List.of(code));
            CHECK.same("the code at its place", x.codeAt(1, 0), code);
        }
        Signkinds halves = new Signkinds();
        halves.send(0, HIGH);
        halves.send(0, LOW);
        CHECK.same("two halves, each sent by itself", Made.units(halves, 0), List.of(HIGH, LOW));
        CHECK.same("the code that they are", halves.nth(0, 0), WIDE);
    }

    private static void turned() {
        int[] units = {0, 1, 255, 256, 257, 258, 511, 65280, 65534, 65535, 216, 223, HIGH, 57088};
        int[] due = {0, 256, 65280, 1, 257, 513, 65281, 255, 65279, 65535, HIGH, 57088, 216, 223};
        Signkinds x = new Signkinds();
        for (int k = 0; k < units.length; k++) {
            CHECK.same("ofUnit(" + units[k] + ", 3)", x.ofUnit(units[k], 3), due[k]);
            CHECK.same("ofUnit(" + due[k] + ", 3)", x.ofUnit(due[k], 3), units[k]);
        }
    }

    private static void tracksAre() {
        for (int track = 0; track < 2; track++) {
            Signkinds x = new Signkinds();
            CHECK.same("ofTrack(" + track + ", 0) at first", x.ofTrack(track, 0), 0);
            for (int unit = 0; unit < 24; unit++) {
                x.put(track, 7 * unit);
            }
            CHECK.same("ofTrack(" + track + ", 0) of a full one", x.ofTrack(track, 0), 24);
            CHECK.same("ofTrack() of the other one", x.ofTrack(1 - track, 0), 0);
            for (int place = 0; place < 24; place++) {
                CHECK.same("unit(" + track + ", " + place + ")", x.unit(track, place), 7 * place);
            }
            CHECK.same("put() of one more", x.put(track, 1), NOT_DONE);
        }
        for (int track : new int[] {-1, 2}) {
            CHECK.refused("ofTrack(" + track + ", 0)", Made::filled, x -> x.ofTrack(track, 0), Check.INDEX);
        }
    }

    private static void codeAtPlace() {
        int[][] tracks = {{7}, {HIGH}, {LOW}, {HIGH, LOW}, {LAST_HIGH, LAST_LOW}, {LOW, HIGH}, {HIGH, HIGH}, {LOW, LOW},
            {HIGH, 55295}, {HIGH, 57344}, {55295, LOW}, {57344, LOW}, {HIGH, HIGH, LOW}, {HIGH, LOW, LOW}};
        int[][] due = {{7}, {HIGH}, {LOW}, {WIDE, LOW}, {LAST_CODE, LAST_LOW}, {LOW, HIGH}, {HIGH, HIGH}, {LOW, LOW},
            {HIGH, 55295}, {HIGH, 57344}, {55295, LOW}, {57344, LOW}, {HIGH, WIDE, LOW}, {WIDE, LOW, LOW}};
        for (int k = 0; k < tracks.length; k++) {
            Signkinds x = Made.track(tracks[k]);
            for (int place = 0; place < due[k].length; place++) {
                CHECK.same("codeAt(0, " + place + ") of case " + k, x.codeAt(0, place), due[k][place]);
            }
        }
        Signkinds full = Made.trackOf(22);
        full.send(0, LAST_CODE);
        CHECK.same("codeAt(0, 22) at the last two places", full.codeAt(0, 22), LAST_CODE);
        CHECK.same("codeAt(0, 23) at the last place", full.codeAt(0, 23), LAST_LOW);
        full.cut(0, 1);
        CHECK.same("codeAt(0, 22) without the low one", full.codeAt(0, 22), LAST_HIGH);
        full.put(0, 5);
        full.put(1, LOW);
        CHECK.same("codeAt(0, 22) with another one behind it", full.codeAt(0, 22), LAST_HIGH);
    }

    private static List<Integer> codes(Signkinds x, int track) {
        List<Integer> codes = new ArrayList<>();
        for (int k = 0; k < x.ofTrack(track, 1); k++) {
            codes.add(x.nth(track, k));
        }
        return codes;
    }

    private static void codesOfTrack() {
        CHECK.same("none", codes(new Signkinds(), 0), List.of());
        CHECK.same("one", codes(Made.track(7), 0), List.of(7));
        CHECK.same("a wide one", codes(Made.track(HIGH, LOW), 0), List.of(WIDE));
        CHECK.same("a wide one and more", codes(Made.track(HIGH, LOW, 7), 0), List.of(WIDE, 7));
        CHECK.same("one and a wide one", codes(Made.track(7, HIGH, LOW), 0), List.of(7, WIDE));
        CHECK.same("two wide ones", codes(Made.track(HIGH, LOW, HIGH, LOW + 1), 0), List.of(WIDE, WIDE + 1));
        CHECK.same("high, high, low", codes(Made.track(HIGH, HIGH, LOW), 0), List.of(HIGH, WIDE));
        CHECK.same("high, low, low", codes(Made.track(HIGH, LOW, LOW), 0), List.of(WIDE, LOW));
        CHECK.same("low, high, low", codes(Made.track(LOW, HIGH, LOW), 0), List.of(LOW, WIDE));
        CHECK.same("high, low, high", codes(Made.track(HIGH, LOW, HIGH), 0), List.of(WIDE, HIGH));
        CHECK.same("high, low, low, high, high, low", codes(Made.track(HIGH, LOW, LOW, HIGH, HIGH, LOW), 0),
                List.of(WIDE, LOW, HIGH, WIDE));
        CHECK.same("12 wide ones", codes(bothFull(), 1), Collections.nCopies(12, LAST_CODE));
        CHECK.same("24 plain ones", codes(bothFull(), 0).size(), 24);
    }

    private static void loneHalves() {
        int[][] tracks = {{}, {7}, {HIGH}, {LOW}, {HIGH, LOW}, {LOW, HIGH}, {HIGH, HIGH, LOW}, {HIGH, LOW, LOW},
            {HIGH, 7, LOW}, {LAST_HIGH, LAST_LOW}, {55295, 57344}, {LAST_LOW, LAST_HIGH}};
        int[] due = {0, 0, 1, 1, 0, 2, 1, 1, 2, 0, 0, 2};
        for (int k = 0; k < tracks.length; k++) {
            CHECK.same("lone halves of case " + k, Made.track(tracks[k]).ofTrack(0, 3), due[k]);
        }
        int[] highs = new int[24];
        java.util.Arrays.fill(highs, HIGH);
        CHECK.same("24 lone halves", Made.track(highs).ofTrack(0, 3), 24);
        highs[23] = LOW;
        CHECK.same("22 lone halves and a wide one", Made.track(highs).ofTrack(0, 3), 22);
    }

    private static void sentBehind() {
        Signkinds x = Made.track(7);
        x.send(0, WIDE);
        CHECK.same("two units behind one", Made.units(x, 0), List.of(7, HIGH, LOW));
        x.send(0, 8);
        CHECK.same("one unit behind three", Made.units(x, 0), List.of(7, HIGH, LOW, 8));
        CHECK.same("the other track", Made.units(x, 1), List.of());
    }

    private static void turnedTrack() {
        Signkinds x = Made.track(0, 1, 255, 256, 65535, HIGH, LOW, 216);
        x.flip(0);
        CHECK.same("each unit, turned", Made.units(x, 0), List.of(0, 256, 65280, 1, 65535, 216, 220, HIGH));
        Signkinds full = bothFull();
        full.flip(0);
        for (int place = 0; place < 24; place++) {
            CHECK.same("the unit at " + place, full.unit(0, place), 256 * place);
            CHECK.same("the other track's at " + place, full.unit(1, place), place % 2 == 0 ? LAST_HIGH : LAST_LOW);
        }
        Signkinds none = new Signkinds();
        none.flip(0);
        CHECK.same("none", Made.units(none, 0), List.of());
    }

    private static void reversedTrack() {
        int[][] tracks = {{}, {7}, {7, 8}, {HIGH, LOW}, {7, HIGH, LOW}, {HIGH, LOW, 7}, {LOW, HIGH}, {HIGH, HIGH, LOW},
            {HIGH, LOW, LOW}, {LOW, HIGH, LOW}, {LOW, LOW, HIGH, HIGH}, {HIGH, LOW, HIGH + 1, LOW + 1}, {LOW, 7, HIGH}};
        List<List<Integer>> due = List.of(List.of(), List.of(7), List.of(8, 7), List.of(HIGH, LOW), List.of(HIGH, LOW, 7),
                List.of(7, HIGH, LOW), List.of(HIGH, LOW), List.of(HIGH, LOW, HIGH), List.of(LOW, HIGH, LOW),
                List.of(HIGH, LOW, LOW), List.of(HIGH, HIGH, LOW, LOW), List.of(HIGH + 1, LOW + 1, HIGH, LOW),
                List.of(HIGH, 7, LOW));
        for (int k = 0; k < tracks.length; k++) {
            Signkinds x = Made.track(tracks[k]);
            x.reverse(0);
            CHECK.same("the units of case " + k, Made.units(x, 0), due.get(k));
        }
        reversedAgain();
        Signkinds beside = Made.track(LOW, HIGH);
        beside.reverse(0);
        CHECK.same("the code that two lone halves are then", beside.codeAt(0, 0), WIDE);
    }

    /** One reverse() leaves nothing to the next one, of the same track or of the other one. */
    private static void reversedAgain() {
        Signkinds x = Made.track(7, HIGH, LOW, 8);
        x.send(1, 9);
        x.reverse(0);
        x.reverse(0);
        CHECK.same("the units, reversed twice", Made.units(x, 0), List.of(7, HIGH, LOW, 8));
        x.reverse(1);
        CHECK.same("the units of the other track", Made.units(x, 1), List.of(9));
        x.cut(0, 4);
        CHECK.same("reverse(0) of none behind that of some", x.reverse(0), 0);
        CHECK.same("the units of none", Made.units(x, 0), List.of());
        Signkinds full = bothFull();
        full.reverse(0);
        full.reverse(1);
        full.reverse(0);
        CHECK.same("24 units, reversed twice", Made.units(full, 0), Made.units(Made.trackOf(24), 0));
    }

    private static void send() {
        for (int many : new int[] {0, 1, 21, 22, 23}) {
            CHECK.same("send(0, 65535) behind " + many, Made.trackOf(many).send(0, 65535), many + 1);
        }
        for (int many : new int[] {0, 1, 21, 22}) {
            CHECK.same("send(0, 65536) behind " + many, Made.trackOf(many).send(0, WIDE), many + 2);
        }
        for (int code : new int[] {0, HIGH, 65535, WIDE, LAST_CODE}) {
            CHECK.refused("send(0, " + code + ") behind 24", () -> Made.trackOf(24), x -> x.send(0, code), NOT_DONE);
        }
        for (int code : new int[] {WIDE, LAST_CODE}) {
            CHECK.refused("send(0, " + code + ") behind 23", () -> Made.trackOf(23), x -> x.send(0, code), NOT_DONE);
        }
        CHECK.same("the other track has room", Made.trackOf(24).send(1, WIDE), 2);
    }

    private static void sendOfNoCode() {
        for (int code : new int[] {MIN, -9, -2, -1, LAST_CODE + 1, LAST_CODE + 2, MAX}) {
            CHECK.refused("send(0, " + code + ")", Made::filled, x -> x.send(0, code), Check.ARGUMENT);
            CHECK.refused("send(0, " + code + ") behind 24", () -> Made.trackOf(24), x -> x.send(0, code), Check.ARGUMENT);
        }
        CHECK.same("send(0, 0)", new Signkinds().send(0, 0), 1);
        CHECK.same("send(0, 1114111)", new Signkinds().send(0, LAST_CODE), 2);
    }

    private static void put() {
        for (int many = 0; many < 24; many++) {
            CHECK.same("put(0, 65535) behind " + many, Made.trackOf(many).put(0, 65535), many + 1);
        }
        for (int unit : new int[] {0, HIGH, LOW, 65535}) {
            CHECK.refused("put(0, " + unit + ") behind 24", () -> Made.trackOf(24), x -> x.put(0, unit), NOT_DONE);
        }
        CHECK.same("the other track has room", Made.trackOf(24).put(1, 0), 1);
    }

    private static void putOfNoUnit() {
        for (int unit : new int[] {MIN, -9, -2, -1, WIDE, WIDE + 1, LAST_CODE, MAX}) {
            CHECK.refused("put(0, " + unit + ")", Made::filled, x -> x.put(0, unit), Check.ARGUMENT);
            CHECK.refused("put(0, " + unit + ") behind 24", () -> Made.trackOf(24), x -> x.put(0, unit), Check.ARGUMENT);
        }
        CHECK.same("put(0, 0)", new Signkinds().put(0, 0), 1);
        CHECK.same("put(0, 65535)", new Signkinds().put(0, 65535), 1);
    }

    private static void cut() {
        for (int many : new int[] {0, 1, 2, 23, 24}) {
            for (int gone = 0; gone <= many; gone++) {
                Signkinds x = Made.trackOf(many);
                CHECK.same("cut(0, " + gone + ") of " + many, x.cut(0, gone), many - gone);
                CHECK.same("what stays of " + many, Made.units(x, 0), Made.units(Made.trackOf(many - gone), 0));
            }
        }
        Signkinds wide = Made.track(HIGH, LOW);
        CHECK.same("cut(0, 1) of a wide code", wide.cut(0, 1), 1);
        CHECK.same("what stays of it", wide.codeAt(0, 0), HIGH);
    }

    private static void cutOfTooMany() {
        for (int many : new int[] {0, 1, 23, 24}) {
            for (int gone : new int[] {MIN, -2, -1, many + 1, many + 2, 25, MAX}) {
                CHECK.refused("cut(0, " + gone + ") of " + many, () -> Made.trackOf(many), x -> x.cut(0, gone),
                        Check.ARGUMENT);
            }
        }
    }

    private static void flip() {
        // 216 to 219 and 220 to 223, turned, are the first halves with a rest of 0 by 256.
        int[] units = {215, 216, 219, 220, 223, 224, HIGH, LOW, 65496, 65499, 65500, 65503, 65504};
        int[] due = {0, 1, 1, 1, 1, 0, 0, 0, 1, 1, 1, 1, 0};
        for (int k = 0; k < units.length; k++) {
            CHECK.same("flip(0) of " + units[k], Made.track(units[k]).flip(0), due[k]);
        }
        CHECK.same("flip(0) of none", new Signkinds().flip(0), 0);
        int[] all = new int[24];
        java.util.Arrays.fill(all, 216);
        Signkinds x = Made.track(all);
        CHECK.same("flip(0) of 24", x.flip(0), 24);
        CHECK.same("flip(0) of 24 halves", x.flip(0), 0);
        CHECK.same("flip(0) of the first place alone", Made.track(216, 7).flip(0), 1);
        CHECK.same("flip(0) of the last place alone", Made.track(7, 216).flip(0), 1);
    }

    private static void reverse() {
        CHECK.same("reverse(0) of none", new Signkinds().reverse(0), 0);
        CHECK.same("reverse(0) of one", Made.track(7).reverse(0), 1);
        CHECK.same("reverse(0) of a wide one", Made.track(HIGH, LOW).reverse(0), 1);
        CHECK.same("reverse(0) of 24 plain ones", bothFull().reverse(0), 24);
        CHECK.same("reverse(1) of 12 wide ones", bothFull().reverse(1), 12);
        // As many codes as it has then, not as many as it had.
        CHECK.same("reverse(0) of low, high", Made.track(LOW, HIGH).reverse(0), 1);
        CHECK.same("reverse(0) of low, low, high, high", Made.track(LOW, LOW, HIGH, HIGH).reverse(0), 3);
        int[] pairs = new int[24];
        for (int k = 0; k < 24; k++) {
            pairs[k] = k % 2 == 0 ? LOW : HIGH;
        }
        // A low one, 11 wide ones, and a high one: the high one comes ahead of the first of them.
        Signkinds x = Made.track(pairs);
        CHECK.same("ofTrack(0, 1) of low, high, 12 times", x.ofTrack(0, 1), 13);
        CHECK.same("reverse(0) of it", x.reverse(0), 13);
        CHECK.same("ofTrack(0, 3) then", x.ofTrack(0, 3), 2);
    }
}
