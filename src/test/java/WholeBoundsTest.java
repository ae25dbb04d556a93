import java.io.IOException;
import java.math.BigInteger;
import java.util.ArrayList;
import java.util.List;
import java.util.function.Consumer;
import java.util.function.Function;

/** Each sentence of part 4 of the document, "Steps back", and of promises 1, 18, 19 and 57 to 59, at its edges. */
public final class WholeBoundsTest {
    private static final Check CHECK = new Check("WholeBoundsTest");
    private static final int NONE = -1;
    private static final int MOST_CALLS = 512;

    public static void main(String[] args) throws IOException {
        Sentences said = new Sentences(CHECK).ofPart("## What it is", "## The public face")
                .ofPart("4. Steps back", "## Promise 1:").ofPromises(1, 1).ofPromises(18, 19).ofPromises(57, 59);
        whatItIs(said);
        stepsBack(said);
        theWhole(said);
        said.end();
    }

    private static void whatItIs(Sentences said) {
        said.namesNoCase("Kinds of signs.");
        said.namesNoCase("Signs are numbers from 0 to 255, and are asked for their kind, their great and small ones, their"
                + " values and digits; rows of them are laid, raised, sieved, stripped, written in digits and read again.");
        said.namesNoCase("Codes are greater numbers, which are sent as one unit or as two halves, and read again from tracks"
                + " of units.");
        said.says("An object is used for at most 512 calls after it has been made; what later calls answer is free.",
                WholeBoundsTest::mostCalls);
    }

    private static void stepsBack(Sentences said) {
        said.says("Each call of the part \"what is done\" that throws nothing and does not tell -9 is a STEP, also if nothing"
                + " is other by it (but knock() and undo()); the last 6 can be undone: all is as it was ahead of the last"
                + " one, but how often one knocked.", () -> {
                    eachCallIsAStep();
                    knockAndUndoAreNoSteps();
                    whatIsRefusedIsNoStep();
                    theLastSix();
                    whatStandsEverywhereIsBack();
                });
        said.namesNoCase("The constructor and the methods follow, a promise each: the signature, then what it does.");
        said.promises(1, "Creates four empty ROWS and two empty TRACKS.", WholeBoundsTest::newObject);
        said.promises(18, "Returns how many can be undone still.", WholeBoundsTest::undo);
        said.promises(18, "Throws `IllegalStateException` if there is none", WholeBoundsTest::undoOfNone);
        said.promises(19, "Returns how often one knocked, with this.", WholeBoundsTest::knock);
    }

    private static void theWhole(Sentences said) {
        said.promises(57, "Returns that.", WholeBoundsTest::house);
        said.promises(57, "Throws `IllegalArgumentException` if what is not 0 to 3", WholeBoundsTest::houseOfNoWhat);
        said.promises(58, "Returns whether all of this is so: no ROW has more than 40 SIGNS, no TRACK more than 24 UNITS;"
                + " each SIGN of a ROW is a LETTER OR DIGIT just if it is a LETTER or a DIGIT, a GREAT one has another LOWER,"
                + " of which it is the UPPER; its number in the RADIX 36, if it has one, has a DIGIT there with the same"
                + " UPPER; and the CODES of each TRACK, SENT one behind the other, are its UNITS.", WholeBoundsTest::isSound);
        said.promises(59, "Computes a checksum. A number d starts with 7707; then d becomes d * 31 + v, which wraps around as"
                + " a 64-bit integer, for each v in this order: ROW by ROW length(), SIGN by SIGN the SIGN, kinds(),"
                + " upper(), lower(), value() (as CODES), number() in the RADIX 16; then of the ROW count() of 0 to 4, told()"
                + " in the RADIX 36, values(), words(), the lengths of forms() and spelled(); order() of the ROWS 0 and 1,"
                + " then of 2 and 3; 1 if isAlike() of 0 and 1, otherwise 0; TRACK by TRACK ofTrack() of 0 to 3, UNIT by"
                + " UNIT the UNIT, ofUnit() of 0 to 3, codeAt(); house() of 0 to 3; 1 if isSound(), otherwise 0.",
                WholeBoundsTest::digestWraps);
        said.promises(59, "Returns d.", WholeBoundsTest::digest);
    }

    /** The 512th call still answers as the first ones do. */
    private static void mostCalls() {
        Signkinds knocked = new Signkinds();
        Signkinds stepped = new Signkinds();
        Signkinds refused = new Signkinds();
        Signkinds texts = Made.row("z".repeat(40));
        int used = 10;
        for (int call = 1; call < MOST_CALLS; call++) {
            CHECK.same("knock() " + call, knocked.knock(), call);
            CHECK.same("lay() and drop() " + call, call % 2 == 1 ? stepped.lay(0, 1, 2, 3, 4) : stepped.drop(0, 4),
                    call % 2 == 1 ? 4 : 0);
            CHECK.state("undo() of none " + call, refused::undo);
            if (call <= MOST_CALLS - used) {
                CHECK.same("spelled(0) " + call, texts.spelled(0), "7a".repeat(40));
            }
        }
        CHECK.same("knock(), the 512th call", knocked.knock(), MOST_CALLS);
        CHECK.same("undo(), the 512th call", stepped.undo(), 5);
        CHECK.same("lay(), the 512th call", refused.lay(0, 1, NONE, NONE, NONE), 1);
    }

    /** Calls of the part "what is done", by which something is other in a filled object. */
    private static List<Function<Signkinds, Integer>> changing() {
        List<Function<Signkinds, Integer>> calls = new ArrayList<>();
        calls.add(x -> x.lay(0, 1, 2, 3, 4));
        calls.add(x -> x.drop(0, 2));
        calls.add(x -> x.drop(3, 1));
        calls.add(x -> x.copy(0, 1));
        calls.add(x -> x.copy(3, 2));
        calls.add(x -> x.raise(0));
        calls.add(x -> x.sink(1));
        calls.add(x -> x.sieve(0, 1, true));
        calls.add(x -> x.sieve(1, 0, false));
        calls.add(x -> x.strip(0));
        calls.add(x -> x.turn(1));
        calls.add(x -> x.write(2, 999999, 2));
        calls.add(x -> x.spell(0, 3));
        calls.add(x -> x.read(1, 0));
        calls.add(x -> x.send(0, 70000));
        calls.add(x -> x.put(1, 9));
        calls.add(x -> x.cut(0, 1));
        calls.add(x -> x.flip(1));
        calls.add(x -> x.reverse(0));
        return calls;
    }

    /** Calls of the part "what is done", by which nothing is other in a filled object. */
    private static List<Function<Signkinds, Integer>> idle() {
        List<Function<Signkinds, Integer>> calls = new ArrayList<>();
        calls.add(x -> x.lay(0, NONE, NONE, NONE, NONE));
        calls.add(x -> x.drop(0, 0));
        calls.add(x -> x.copy(0, 0));
        calls.add(x -> x.raise(1));
        calls.add(x -> x.sink(3));
        calls.add(x -> x.sieve(1, 2, true));
        calls.add(x -> x.sieve(1, 3, false));
        calls.add(x -> x.strip(1));
        calls.add(x -> x.turn(2));
        calls.add(x -> x.cut(1, 0));
        return calls;
    }

    /** Calls of the part "what is done" of a new object, by which nothing is other, as there is nothing. */
    private static List<Function<Signkinds, Integer>> idleOfNew() {
        List<Function<Signkinds, Integer>> calls = new ArrayList<>();
        calls.add(x -> x.lay(0, NONE, NONE, NONE, NONE));
        calls.add(x -> x.drop(0, 0));
        calls.add(x -> x.copy(0, 1));
        calls.add(x -> x.copy(3, 3));
        calls.add(x -> x.raise(0));
        calls.add(x -> x.sink(1));
        calls.add(x -> x.sieve(2, 4, true));
        calls.add(x -> x.strip(3));
        calls.add(x -> x.turn(0));
        calls.add(x -> x.spell(0, 1));
        calls.add(x -> x.read(1, 0));
        calls.add(x -> x.cut(0, 0));
        calls.add(x -> x.flip(0));
        calls.add(x -> x.reverse(1));
        return calls;
    }

    private static void eachCallIsAStep() {
        stepsOf("that changes something", changing(), Made::filled, true);
        stepsOf("that changes nothing", idle(), Made::filled, false);
        stepsOf("of a new object", idleOfNew(), Signkinds::new, false);
    }

    private static void stepsOf(String told, List<Function<Signkinds, Integer>> calls,
            java.util.function.Supplier<Signkinds> maker, boolean isOther) {
        for (int k = 0; k < calls.size(); k++) {
            String call = "the call " + k + " " + told;
            Signkinds x = maker.get();
            String before = Made.contents(x);
            int steps = x.house(2);
            CHECK.same(call + " tells -9", calls.get(k).apply(x) == -9, false);
            CHECK.same(call + " makes something other", Made.contents(x).equals(before), !isOther);
            CHECK.same("the steps by " + call, x.house(2), steps + 1);
            CHECK.same("undo() of " + call, x.undo(), steps);
            CHECK.same("all after undo() of " + call, Made.allWithStepsBack(x), Made.allWithStepsBack(maker.get()));
        }
    }

    private static void knockAndUndoAreNoSteps() {
        Signkinds x = new Signkinds();
        x.knock();
        CHECK.same("the steps by a knock", x.house(2), 0);
        x.lay(0, 'a', NONE, NONE, NONE);
        x.lay(0, 'b', NONE, NONE, NONE);
        x.knock();
        CHECK.same("the steps by two steps and a knock", x.house(2), 2);
        CHECK.same("undo()", x.undo(), 1);
        CHECK.same("the steps by an undo()", x.house(2), 1);
        CHECK.same("the knocks after it", x.house(3), 2);
        CHECK.same("undo() does not undo an undo()", x.undo(), 0);
        CHECK.same("the signs then", Made.signs(x, 0), "");
        CHECK.same("the knocks then", x.house(3), 2);
        CHECK.state("undo() of knocks alone", x::undo);
    }

    private static void whatIsRefusedIsNoStep() {
        Signkinds x = Made.trackOf(24);
        Made.with(x, 0, "g".repeat(40));
        for (int k = 0; k < 6; k++) {
            x.write(1, k, 10);
        }
        for (int steps = 6; steps > 0; steps--) {
            CHECK.same("the steps ahead of what is refused", x.house(2), steps);
            makeRefusedCalls(x);
            CHECK.same("undo() by what is refused", x.undo(), steps - 1);
            CHECK.same("the signs then", Made.signs(x, 1), "012345".substring(0, steps - 1));
        }
        makeRefusedCalls(x);
        CHECK.state("undo() of what is refused alone", x::undo);
        Signkinds full = Made.row("g".repeat(40));
        CHECK.same("write() that can not be done", full.write(0, 0, 2), -9);
        Check.outcome(() -> full.lay(0, 1, NONE, NONE, NONE));
        CHECK.same("undo() then", full.undo(), 5);
        CHECK.same("the signs then", full.length(0), 36);
    }

    private static void makeRefusedCalls(Signkinds x) {
        x.spell(0, 1);
        x.read(0, 1);
        x.write(0, 0, 2);
        x.put(0, 1);
        x.send(0, 1);
        Check.outcome(() -> x.lay(0, 1, NONE, NONE, NONE));
        Check.outcome(() -> x.lay(1, 1, 2, 3, 256));
        Check.outcome(() -> x.drop(0, 41));
        Check.outcome(() -> x.cut(0, 25));
        Check.outcome(() -> x.copy(0, 4));
        Check.outcome(() -> x.sieve(0, 5, true));
        Check.outcome(() -> x.spell(1, 1));
        Check.outcome(() -> x.read(1, 1));
        Check.outcome(() -> x.write(1, 1, 37));
        Check.outcome(() -> x.put(1, 65536));
        Check.outcome(() -> x.send(1, 1114112));
        Check.outcome(() -> x.raise(4));
        Check.outcome(() -> x.sink(-1));
        Check.outcome(() -> x.strip(4));
        Check.outcome(() -> x.turn(-1));
        Check.outcome(() -> x.flip(2));
        Check.outcome(() -> x.reverse(-1));
    }

    private static void theLastSix() {
        for (int done = 0; done <= 14; done++) {
            Signkinds x = Made.trackOf(done);
            int most = Math.min(done, 6);
            CHECK.same("the steps after " + done, x.house(2), most);
            for (int back = 1; back <= most; back++) {
                CHECK.same("undo() " + back + " of " + done, x.undo(), most - back);
                CHECK.same("the units then", Made.units(x, 0), Made.units(Made.trackOf(done - back), 0));
            }
            CHECK.state("undo() of one more", x::undo);
            CHECK.same("the units by that", x.ofTrack(0, 0), done - most);
        }
        // Some are undone, others come: never more than six, and always the last ones.
        for (int undone = 0; undone <= 6; undone++) {
            for (int more = 0; more <= 8; more++) {
                someUndone(undone, more);
            }
        }
    }

    private static void someUndone(int undone, int more) {
        Signkinds x = Made.trackOf(8);
        for (int k = 0; k < undone; k++) {
            x.undo();
        }
        for (int k = 0; k < more; k++) {
            x.put(0, 100 + k);
        }
        String told = undone + " undone of 8, and " + more + " more";
        int steps = Math.min(6, 6 - undone + more);
        CHECK.same("the steps by " + told, x.house(2), steps);
        int units = 8 - undone + more;
        for (int left = steps - 1; left >= 0; left--) {
            CHECK.same("undo() by " + told, x.undo(), left);
            units--;
            CHECK.same("the units by " + told, x.ofTrack(0, 0), units);
            int last = units > 8 - undone ? 99 + units - (8 - undone) : units - 1;
            CHECK.same("the last unit by " + told, units == 0 || x.unit(0, units - 1) == last, true);
        }
        CHECK.state("undo() of one more by " + told, x::undo);
    }

    private static void whatStandsEverywhereIsBack() {
        Signkinds x = Made.filled();
        String before = Made.contents(x);
        x.turn(0);
        x.sink(1);
        x.drop(2, 1);
        x.write(3, 999999, 36);
        x.flip(0);
        x.put(1, 65535);
        CHECK.same("all six made something other", Made.contents(x).equals(before), false);
        for (int k = 0; k < 6; k++) {
            x.undo();
        }
        CHECK.same("all is back", Made.contents(x), before);
        CHECK.same("but how often one knocked", x.house(3), 2);
    }

    private static void newObject() {
        Signkinds x = new Signkinds();
        for (int row = 0; row < 4; row++) {
            CHECK.same("length(" + row + ")", x.length(row), 0);
            CHECK.same("forms(" + row + ")", x.forms(row), "");
        }
        for (int track = 0; track < 2; track++) {
            for (int what = 0; what < 4; what++) {
                CHECK.same("ofTrack(" + track + ", " + what + ")", x.ofTrack(track, what), 0);
            }
        }
        for (int what = 0; what < 4; what++) {
            CHECK.same("house(" + what + ")", x.house(what), 0);
        }
        CHECK.io("length(4)", () -> x.length(4));
        CHECK.io("ofTrack(2, 0)", () -> x.ofTrack(2, 0));
        CHECK.same("the first knock()", x.knock(), 1);
        CHECK.same("a new one beside one that is used", new Signkinds().house(3), 0);
        CHECK.same("and beside a full one", Made.all(besideFull()), Made.all(new Signkinds()));
    }

    private static Signkinds besideFull() {
        Signkinds x = new Signkinds();
        Made.row("a".repeat(40));
        Made.trackOf(24);
        return x;
    }

    private static void undo() {
        Signkinds x = new Signkinds();
        x.turn(0);
        CHECK.same("undo() of the only one", x.undo(), 0);
        for (int k = 0; k < 6; k++) {
            x.turn(0);
        }
        for (int left = 5; left >= 0; left--) {
            CHECK.same("undo()", x.undo(), left);
            CHECK.same("house(2)", x.house(2), left);
        }
        for (int k = 0; k < 7; k++) {
            x.turn(0);
        }
        CHECK.same("undo() of the last of seven", x.undo(), 5);
    }

    private static void undoOfNone() {
        CHECK.refused("undo() of a new one", Signkinds::new, Signkinds::undo, Check.STATE);
        CHECK.refused("undo() of a knock", () -> after(Signkinds::knock), Signkinds::undo, Check.STATE);
        CHECK.refused("undo() of what was undone", () -> after(x -> {
            x.lay(0, 1, 2, 3, 4);
            x.undo();
        }), Signkinds::undo, Check.STATE);
        CHECK.refused("undo() behind the last six", () -> after(x -> {
            for (int k = 0; k < 8; k++) {
                x.lay(0, 1, 2, 3, 4);
            }
            for (int k = 0; k < 6; k++) {
                x.undo();
            }
        }), Signkinds::undo, Check.STATE);
        CHECK.refused("undo() of what was refused", () -> after(x -> {
            Check.outcome(() -> x.lay(0, 1, 2, 3, 256));
            x.told(0, 10);
        }), Signkinds::undo, Check.STATE);
    }

    private static Signkinds after(Consumer<Signkinds> calls) {
        Signkinds x = new Signkinds();
        calls.accept(x);
        return x;
    }

    private static void knock() {
        Signkinds x = new Signkinds();
        for (int k = 1; k <= 100; k++) {
            CHECK.same("knock()", x.knock(), k);
            CHECK.same("house(3)", x.house(3), k);
        }
        x.turn(0);
        x.undo();
        CHECK.same("knock() after an undo()", x.knock(), 101);
        CHECK.state("undo()", x::undo);
        CHECK.same("knock() after what was refused", x.knock(), 102);
    }

    /** Each row and track is full. */
    private static Signkinds full(int sign, int code) {
        Signkinds x = new Signkinds();
        for (int row = 0; row < 4; row++) {
            for (int k = 0; k < 10; k++) {
                x.lay(row, sign, sign, sign, sign);
            }
        }
        for (int track = 0; track < 2; track++) {
            for (int units = 0; units < 24; units += x.units(code)) {
                x.send(track, code);
            }
        }
        return x;
    }

    private static void house() {
        Signkinds none = new Signkinds();
        Signkinds all = full(255, 1114111);
        all.knock();
        int[] due = {160, 48, 6, 1};
        for (int what = 0; what < 4; what++) {
            CHECK.same("house(" + what + ") of a new one", none.house(what), 0);
            CHECK.same("house(" + what + ") of a full one", all.house(what), due[what]);
        }
        for (int row = 0; row < 4; row++) {
            Signkinds x = new Signkinds();
            x.lay(row, 1, 2, 3, NONE);
            CHECK.same("house(0) by the row " + row, x.house(0), 3);
            CHECK.same("house(1) by the row " + row, x.house(1), 0);
        }
        for (int track = 0; track < 2; track++) {
            Signkinds x = new Signkinds();
            x.send(track, 65536);
            CHECK.same("house(0) by the track " + track, x.house(0), 0);
            CHECK.same("house(1) by the track " + track, x.house(1), 2);
        }
    }

    private static void houseOfNoWhat() {
        for (int what : new int[] {Integer.MIN_VALUE, -2, -1, 4, 5, Integer.MAX_VALUE}) {
            CHECK.refused("house(" + what + ")", Made::filled, x -> x.house(what), Check.ARGUMENT);
            CHECK.refused("house(" + what + ") of a new one", Signkinds::new, x -> x.house(what), Check.ARGUMENT);
        }
    }

    /** It is so after each run of calls; UnsoundTest looks at what is not so. */
    private static void isSound() {
        CHECK.same("isSound() of a new one", new Signkinds().isSound(), true);
        for (int sign = 0; sign <= 255; sign++) {
            Signkinds x = new Signkinds();
            x.lay(sign % 4, sign, NONE, NONE, NONE);
            CHECK.same("isSound() with " + sign, x.isSound(), true);
            x.sink(sign % 4);
            CHECK.same("isSound() with its lower one", x.isSound(), true);
        }
        CHECK.same("isSound() of full ones", full(65, 65536).isSound(), true);
        CHECK.same("isSound() of full ones of lone halves", full(255, 56320).isSound(), true);
        Signkinds halves = Made.track(56320, 55296, 55296, 56320, 56320, 55296);
        CHECK.same("isSound() of halves", halves.isSound(), true);
        halves.reverse(0);
        CHECK.same("isSound() of halves that came beside each other", halves.isSound(), true);
        CHECK.same("isSound() with 39 signs", Made.row("a".repeat(39)).isSound(), true);
        CHECK.same("isSound() with 40 signs", Made.row("a".repeat(40)).isSound(), true);
        CHECK.same("isSound() with 23 units", Made.trackOf(23).isSound(), true);
        CHECK.same("isSound() with 24 units", Made.trackOf(24).isSound(), true);
    }

    private static List<Signkinds> summedUp() {
        List<Signkinds> all = new ArrayList<>(List.of(new Signkinds(), Made.filled(), Made.trackOf(24)));
        all.add(full(57, 56320));
        for (int sign = 0; sign <= 255; sign += 5) {
            all.add(Made.with(Made.row(String.valueOf((char) sign)), 3, "aZ" + (char) (255 - sign)));
        }
        return all;
    }

    private static void digestWraps() {
        BigInteger greatest = BigInteger.valueOf(Long.MAX_VALUE);
        BigInteger around = BigInteger.ONE.shiftLeft(64);
        int below = 0;
        int above = 0;
        for (Signkinds x : summedUp()) {
            BigInteger unwrapped = Checksum.unwrapped(x);
            CHECK.same("the checksum goes beyond 64 bits", unwrapped.compareTo(greatest) > 0, true);
            BigInteger rest = unwrapped.mod(around);
            long due = (rest.compareTo(greatest) > 0 ? rest.subtract(around) : rest).longValueExact();
            CHECK.same("digest(), which wraps around", x.digest(), due);
            below += due < 0 ? 1 : 0;
            above += due > 0 ? 1 : 0;
        }
        CHECK.same("some checksums are below 0, others above", below > 5 && above > 5, true);
    }

    private static void digest() {
        for (Signkinds x : summedUp()) {
            long first = x.digest();
            CHECK.same("digest()", first, Checksum.unwrapped(x).longValue());
            CHECK.same("digest() once more", x.digest(), first);
        }
        List<Function<Signkinds, Integer>> calls = changing();
        calls.add(Signkinds::knock);
        calls.add(Signkinds::undo);
        calls.addAll(idle());
        for (Function<Signkinds, Integer> call : calls) {
            Signkinds x = Made.filled();
            call.apply(x);
            CHECK.same("digest() of something other", x.digest() == Made.filled().digest(), false);
            CHECK.same("digest() then", x.digest(), Checksum.unwrapped(x).longValue());
        }
    }
}
