import java.util.ArrayList;
import java.util.List;

/** Promises 1, 18, 19, 57 to 59, and part 4 of the document: a new object, steps back, and the whole. */
public final class WholeTest {
    private static final Check CHECK = new Check("WholeTest");
    private static final int NONE = -1;

    public static void main(String[] args) {
        newObject();
        eachStepIsUndone();
        onlySixAreUndone();
        whatIsNoStep();
        undoneThenDone();
        knock();
        house();
        isSound();
        digest();
        objectsOfTheirOwn();
        CHECK.end();
    }

    private static void newObject() {
        Signkinds x = new Signkinds();
        for (int row = 0; row < 4; row++) {
            CHECK.same("length(" + row + ")", x.length(row), 0);
        }
        for (int track = 0; track < 2; track++) {
            CHECK.same("ofTrack(" + track + ", 0)", x.ofTrack(track, 0), 0);
        }
        for (int what = 0; what < 4; what++) {
            CHECK.same("house(" + what + ")", x.house(what), 0);
        }
        CHECK.state("undo()", x::undo);
    }

    /** A call of the part "what is done". */
    private interface Step {
        int on(Signkinds x);
    }

    /** An object with something in each row and track, by six steps, of which the last one changed something. */
    private static Signkinds filled() {
        Signkinds x = new Signkinds();
        x.lay(0, ' ', 'a', 'B', '5');
        x.lay(1, '4', '1', '7', 'A');
        x.lay(2, 'x', NONE, NONE, NONE);
        x.send(0, 65536);
        x.put(1, 216);
        x.lay(3, 'm', NONE, NONE, NONE);
        return x;
    }

    private static String contents(Signkinds x) {
        StringBuilder all = new StringBuilder();
        for (int row = 0; row < 4; row++) {
            all.append(x.spelled(row)).append(';');
        }
        for (int track = 0; track < 2; track++) {
            for (int place = 0; place < x.ofTrack(track, 0); place++) {
                all.append(x.unit(track, place)).append(',');
            }
            all.append(';');
        }
        return all.toString();
    }

    private static void eachStepIsUndone() {
        List<Step> steps = new ArrayList<>();
        steps.add(x -> x.lay(0, 1, 2, 3, 4));
        steps.add(x -> x.lay(0, NONE, NONE, NONE, NONE));
        steps.add(x -> x.drop(0, 2));
        steps.add(x -> x.drop(0, 0));
        steps.add(x -> x.copy(0, 1));
        steps.add(x -> x.copy(0, 0));
        steps.add(x -> x.raise(0));
        steps.add(x -> x.raise(1));
        steps.add(x -> x.sink(0));
        steps.add(x -> x.sink(2));
        steps.add(x -> x.sieve(0, 1, true));
        steps.add(x -> x.sieve(0, 1, false));
        steps.add(x -> x.strip(0));
        steps.add(x -> x.strip(1));
        steps.add(x -> x.turn(0));
        steps.add(x -> x.turn(2));
        steps.add(x -> x.write(0, 12, 10));
        steps.add(x -> x.spell(0, 1));
        steps.add(x -> x.read(1, 0));
        steps.add(x -> x.send(0, 70000));
        steps.add(x -> x.put(1, 9));
        steps.add(x -> x.cut(0, 1));
        steps.add(x -> x.cut(0, 0));
        steps.add(x -> x.flip(1));
        steps.add(x -> x.reverse(0));
        for (int k = 0; k < steps.size(); k++) {
            Signkinds x = filled();
            String before = contents(x);
            CHECK.same("step " + k + " tells -9", steps.get(k).on(x) == -9, false);
            CHECK.same("house(2) after step " + k, x.house(2), 6);
            CHECK.same("undo() of step " + k, x.undo(), 5);
            CHECK.same("all is as before step " + k, contents(x), before);
        }
    }

    private static void onlySixAreUndone() {
        Signkinds x = new Signkinds();
        for (int k = 0; k < 9; k++) {
            x.put(0, k);
            CHECK.same("house(2) after " + (k + 1), x.house(2), Math.min(k + 1, 6));
        }
        for (int k = 0; k < 6; k++) {
            CHECK.same("undo() " + k, x.undo(), 5 - k);
            CHECK.same("ofTrack(0, 0)", x.ofTrack(0, 0), 8 - k);
            CHECK.same("the last unit", x.unit(0, 7 - k), 7 - k);
        }
        CHECK.state("undo() of none", x::undo);
        CHECK.same("ofTrack(0, 0)", x.ofTrack(0, 0), 3);
        CHECK.same("house(2)", x.house(2), 0);
    }

    private static void whatIsNoStep() {
        Signkinds x = new Signkinds();
        for (int k = 0; k < 10; k++) {
            x.lay(0, 'a', 'a', 'a', 'g');
        }
        for (int k = 0; k < 24; k++) {
            x.put(0, k);
        }
        x.undo();
        x.put(0, 1);
        x.undo();
        x.put(0, 2);
        x.undo();
        CHECK.same("house(2)", x.house(2), 5);
        CHECK.same("write() that can not be done", x.write(0, 1, 10), -9);
        CHECK.same("spell() that can not be done", x.spell(0, 1), -9);
        CHECK.same("read() that can not be done", x.read(0, 1), -9);
        CHECK.same("send() that can not be done", x.send(0, 65536), -9);
        CHECK.same("house(2) after what could not be done", x.house(2), 5);
        CHECK.state("lay() behind 40", () -> x.lay(0, 'a', NONE, NONE, NONE));
        CHECK.illegal("put() of no unit", () -> x.put(0, -1));
        CHECK.illegal("cut() of too many", () -> x.cut(0, 30));
        x.knock();
        x.told(0, 36);
        x.digest();
        CHECK.same("house(2) after all that", x.house(2), 5);
        CHECK.same("undo()", x.undo(), 4);
        CHECK.same("ofTrack(0, 0)", x.ofTrack(0, 0), 22);
    }

    private static void undoneThenDone() {
        Signkinds x = new Signkinds();
        x.lay(0, 'a', NONE, NONE, NONE);
        x.lay(0, 'b', NONE, NONE, NONE);
        x.undo();
        x.lay(0, 'c', NONE, NONE, NONE);
        x.raise(0);
        CHECK.same("spelled(0)", x.spelled(0), "4143");
        CHECK.same("undo()", x.undo(), 2);
        CHECK.same("spelled(0)", x.spelled(0), "6163");
        CHECK.same("undo()", x.undo(), 1);
        CHECK.same("spelled(0)", x.spelled(0), "61");
        CHECK.same("undo()", x.undo(), 0);
        CHECK.same("spelled(0)", x.spelled(0), "");
    }

    private static void knock() {
        Signkinds x = new Signkinds();
        CHECK.same("knock()", x.knock(), 1);
        x.lay(0, 'a', NONE, NONE, NONE);
        CHECK.same("knock()", x.knock(), 2);
        CHECK.same("undo()", x.undo(), 0);
        CHECK.same("house(3) after undo()", x.house(3), 2);
        CHECK.same("knock()", x.knock(), 3);
        CHECK.state("undo() of a knock", x::undo);
    }

    private static void house() {
        Signkinds x = filled();
        x.knock();
        int[] due = {10, 3, 6, 1};
        for (int what = 0; what < 4; what++) {
            CHECK.same("house(" + what + ")", x.house(what), due[what]);
        }
        for (int what : new int[] {-1, 4, Integer.MIN_VALUE, Integer.MAX_VALUE}) {
            CHECK.illegal("house(" + what + ")", () -> x.house(what));
        }
    }

    private static void isSound() {
        CHECK.same("isSound() of a new one", new Signkinds().isSound(), true);
        Signkinds full = new Signkinds();
        for (int k = 0; k < 10; k++) {
            full.lay(1, 'a', 'B', '5', 255);
        }
        for (int k = 0; k < 12; k++) {
            full.send(0, 65536 + k);
        }
        CHECK.same("isSound() with 40 signs and 24 units", full.isSound(), true);
        for (int begin = 0; begin < 256; begin += 32) {
            Signkinds x = new Signkinds();
            for (int sign = begin; sign < begin + 32; sign += 4) {
                x.lay(begin / 32 % 4, sign, sign + 1, sign + 2, sign + 3);
            }
            x.send(0, 65536 + begin);
            x.put(1, 56320 + begin);
            x.put(1, 55296 + begin);
            x.put(1, 56320 + begin);
            CHECK.same("isSound() with the signs from " + begin, x.isSound(), true);
            CHECK.same("reverse(1)", x.reverse(1), 2);
            CHECK.same("isSound() then", x.isSound(), true);
        }
    }

    private static long sumUp(long... values) {
        long d = 7707;
        for (long v : values) {
            d = d * 31 + v;
        }
        return d;
    }

    private static void digest() {
        long none = sumUp(
                0, 0, 0, 0, 0, 0, -9, 0, 0, 0, 0,
                0, 0, 0, 0, 0, 0, -9, 0, 0, 0, 0,
                0, 0, 0, 0, 0, 0, -9, 0, 0, 0, 0,
                0, 0, 0, 0, 0, 0, -9, 0, 0, 0, 0,
                0, 0, 1,
                0, 0, 0, 0,
                0, 0, 0, 0,
                0, 0, 0, 0, 1);
        CHECK.same("digest() of a new one", new Signkinds().digest(), none);
        Signkinds x = new Signkinds();
        x.lay(0, 'B', 255, NONE, NONE);
        x.lay(1, 'b', 255, NONE, NONE);
        x.lay(2, '7', NONE, NONE, NONE);
        x.send(1, 65536);
        x.knock();
        long some = sumUp(
                2, 66, 22, 66, 98, 11, 11, 255, 6, 376, 255, -1, -1, 0, 2, 2, 0, 1, -9, 11, 1, 2, 4,
                2, 98, 6, 66, 98, 11, 11, 255, 6, 376, 255, -1, -1, 0, 2, 2, 0, 0, -9, 11, 1, 2, 4,
                1, 55, 5, 55, 55, 7, 7, 1, 0, 1, 0, 0, 7, 7, 1, 1, 2,
                0, 0, 0, 0, 0, 0, -9, 0, 0, 0, 0,
                -1, 1, 1,
                0, 0, 0, 0,
                2, 1, 1, 0, 55296, 1, 1, 0, 216, 65536, 56320, 1, 0, 1, 220, 56320,
                5, 2, 4, 1, 1);
        CHECK.same("digest()", x.digest(), some);
        CHECK.same("digest() changes nothing", x.digest(), some);
    }

    private static void objectsOfTheirOwn() {
        Signkinds x = new Signkinds();
        Signkinds y = new Signkinds();
        x.lay(0, 'a', NONE, NONE, NONE);
        x.put(0, 1);
        x.knock();
        CHECK.same("digest() of another object", y.digest(), new Signkinds().digest());
    }
}
