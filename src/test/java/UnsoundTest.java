import java.lang.reflect.Array;
import java.lang.reflect.Field;
import java.util.Arrays;

/**
 * What isSound() tells where something is not so. No run of calls comes there, so this test alone reaches into the
 * object; where the state is held in another way, its paths must be written anew.
 */
public final class UnsoundTest {
    private static final Check CHECK = new Check("UnsoundTest");

    public static void main(String[] args) throws ReflectiveOperationException {
        for (int row = 0; row < 4; row++) {
            signs(row);
        }
        for (int track = 0; track < 2; track++) {
            units(track);
            noUnit(track);
        }
        CHECK.end();
    }

    private static Object inside(Object of, String name) throws ReflectiveOperationException {
        return field(of, name).get(of);
    }

    private static Field field(Object of, String name) throws ReflectiveOperationException {
        Field field = of.getClass().getDeclaredField(name);
        field.setAccessible(true);
        return field;
    }

    /** An object of which one row ("rows") or track ("tracks") holds so many numbers, also too many. */
    private static Signkinds holding(String lines, int k, int... numbers) throws ReflectiveOperationException {
        Signkinds x = new Signkinds();
        Object line = Array.get(inside(inside(x, "now"), lines), k);
        field(line, "numbers").set(line, numbers);
        field(line, "size").setInt(line, numbers.length);
        return x;
    }

    private static int[] repeated(int number, int many) {
        int[] numbers = new int[many];
        Arrays.fill(numbers, number);
        return numbers;
    }

    private static void signs(int row) throws ReflectiveOperationException {
        for (int many : new int[] {39, 40, 41, 42}) {
            Signkinds x = holding("rows", row, repeated(97, many));
            CHECK.same("length(" + row + ")", x.length(row), many);
            CHECK.same("isSound() with " + many + " signs in the row " + row, x.isSound(), many <= 40);
            CHECK.same("digest() with " + many, x.digest(), Checksum.unwrapped(x).longValue());
        }
    }

    private static void units(int track) throws ReflectiveOperationException {
        for (int many : new int[] {23, 24, 25, 26}) {
            Signkinds x = holding("tracks", track, repeated(97, many));
            CHECK.same("ofTrack(" + track + ", 0)", x.ofTrack(track, 0), many);
            CHECK.same("isSound() with " + many + " units in the track " + track, x.isSound(), many <= 24);
            CHECK.same("digest() with " + many, x.digest(), Checksum.unwrapped(x).longValue());
        }
    }

    /** A wide code in the place of a unit: sent, it would be two units. */
    private static void noUnit(int track) throws ReflectiveOperationException {
        CHECK.same("isSound() with 65535", holding("tracks", track, 65535, 7).isSound(), true);
        CHECK.same("isSound() with 65536", holding("tracks", track, 65536, 7).isSound(), false);
        CHECK.same("isSound() with 1114111", holding("tracks", track, 7, 1114111).isSound(), false);
        CHECK.same("isSound() with 65536 alone", holding("tracks", track, 65536).isSound(), false);
        // The last two places, so that two units would stand where there is but one place.
        CHECK.same("isSound() with 65536 at the end", holding("tracks", track, 55296, 56320, 65536).isSound(), false);
    }
}
