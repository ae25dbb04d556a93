import java.util.ArrayList;
import java.util.List;

/** Objects that are made for tests, and what they hold. */
final class Made {
    static final int NONE = -1;

    private Made() {
    }

    /** A new object whose row 0 holds the signs of the text. */
    static Signkinds row(String signs) {
        return with(new Signkinds(), 0, signs);
    }

    /** Lays the signs of the text behind those of a row, four by a call. */
    static Signkinds with(Signkinds x, int row, String signs) {
        for (int place = 0; place < signs.length(); place += 4) {
            x.lay(row, signAt(signs, place), signAt(signs, place + 1), signAt(signs, place + 2),
                    signAt(signs, place + 3));
        }
        return x;
    }

    private static int signAt(String signs, int place) {
        return place < signs.length() ? signs.charAt(place) : NONE;
    }

    /** A new object whose track 0 holds the units. */
    static Signkinds track(int... units) {
        Signkinds x = new Signkinds();
        for (int unit : units) {
            x.put(0, unit);
        }
        return x;
    }

    /** A new object whose track 0 holds so many units: 0, 1, 2, and so on. */
    static Signkinds trackOf(int many) {
        Signkinds x = new Signkinds();
        for (int unit = 0; unit < many; unit++) {
            x.put(0, unit);
        }
        return x;
    }

    /** Something in each row and track, two knocks, and five steps that can be undone behind one that was. */
    static Signkinds filled() {
        Signkinds x = new Signkinds();
        x.lay(0, ' ', 'a', 'B', '5');
        x.lay(1, '4', '1', '7', 'A');
        x.lay(2, 'x', NONE, NONE, NONE);
        x.send(0, 65536);
        x.put(0, 7);
        x.knock();
        x.put(1, 216);
        x.lay(3, 'm', NONE, NONE, NONE);
        x.turn(0);
        x.raise(0);
        x.undo();
        x.knock();
        return x;
    }

    static String signs(Signkinds x, int row) {
        StringBuilder signs = new StringBuilder();
        int many = x.length(row);
        for (int place = 0; place < many; place++) {
            signs.append((char) x.at(row, place));
        }
        return signs.toString();
    }

    static List<Integer> units(Signkinds x, int track) {
        List<Integer> units = new ArrayList<>();
        int many = x.ofTrack(track, 0);
        for (int place = 0; place < many; place++) {
            units.add(x.unit(track, place));
        }
        return units;
    }

    /** What all rows and tracks hold. */
    static String contents(Signkinds x) {
        StringBuilder all = new StringBuilder();
        for (int row = 0; row < 4; row++) {
            all.append(x.spelled(row)).append("; ");
        }
        for (int track = 0; track < 2; track++) {
            all.append(units(x, track)).append("; ");
        }
        return all.toString();
    }

    /** All that an object holds, how many steps can be undone, and how often one knocked. */
    static String all(Signkinds x) {
        return contents(x) + x.house(2) + " steps; " + x.house(3) + " knocks";
    }

    /** All that an object holds now, and what it holds after each step back: it stands at its begin then. */
    static String allWithStepsBack(Signkinds x) {
        StringBuilder all = new StringBuilder(all(x));
        // The digest stands for the tracks here, as an object is asked no more than 512 times.
        for (int steps = x.house(2); steps > 0; steps--) {
            all.append(" | ").append(x.undo()).append(": ").append(x.spelled(0)).append("; ").append(x.spelled(1));
            all.append("; ").append(x.digest());
        }
        all.append(" | ").append(Check.outcome(x::undo));
        return all.toString();
    }
}
