import java.math.BigInteger;
import java.util.List;

/** The checksum of an object, by what it answers when it is asked. */
final class Checksum {
    private BigInteger sum = BigInteger.valueOf(7707);

    private Checksum() {
    }

    /** The checksum as the document computes it, but without its wrapping around. */
    static BigInteger unwrapped(Signkinds x) {
        Checksum d = new Checksum();
        for (int row = 0; row < 4; row++) {
            addRow(d, x, row);
        }
        d.add(x.order(0, 1));
        d.add(x.order(2, 3));
        d.add(x.isAlike(0, 1) ? 1 : 0);
        for (int track = 0; track < 2; track++) {
            addTrack(d, x, track);
        }
        for (int what = 0; what < 4; what++) {
            d.add(x.house(what));
        }
        d.add(x.isSound() ? 1 : 0);
        return d.sum;
    }

    private void add(long v) {
        sum = sum.multiply(BigInteger.valueOf(31)).add(BigInteger.valueOf(v));
    }

    /** Other objects are asked for what hangs on the sign alone, as one is asked no more than 512 times. */
    private static void addRow(Checksum d, Signkinds x, int row) {
        Signkinds signs = new Signkinds();
        d.add(x.length(row));
        for (char sign : Made.signs(x, row).toCharArray()) {
            d.add(sign);
            d.add(signs.kinds(sign));
            d.add(signs.upper(sign, true));
            d.add(signs.lower(sign, true));
            d.add(signs.value(sign, true));
            d.add(signs.number(sign, 16, true));
        }
        for (int kind = 0; kind < 5; kind++) {
            d.add(x.count(row, kind));
        }
        d.add(x.told(row, 36));
        d.add(x.values(row));
        d.add(x.words(row));
        d.add(x.forms(row).length());
        d.add(x.spelled(row).length());
    }

    private static void addTrack(Checksum d, Signkinds x, int track) {
        Signkinds units = new Signkinds();
        for (int what = 0; what < 4; what++) {
            d.add(x.ofTrack(track, what));
        }
        List<Integer> all = Made.units(x, track);
        for (int place = 0; place < all.size(); place++) {
            d.add(all.get(place));
            for (int what = 0; what < 4; what++) {
                d.add(units.ofUnit(all.get(place), what));
            }
            d.add(x.codeAt(track, place));
        }
    }
}
