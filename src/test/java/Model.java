import java.util.ArrayDeque;
import java.util.Deque;
import java.util.HexFormat;
import java.util.regex.Matcher;
import java.util.regex.Pattern;

/**
 * Answers the calls of Signkinds in another way: the rows and tracks are Java's own Strings, and Character and
 * StringBuilder know the kinds, codes and halves.
 */
public final class Model {
    private String[] rows = {"", "", "", ""};
    private String[] tracks = {"", ""};
    private final Deque<String[][]> past = new ArrayDeque<>();
    private int knocks;

    private static void index(boolean good) {
        if (!good) {
            throw new IndexOutOfBoundsException();
        }
    }

    private static void argument(boolean good) {
        if (!good) {
            throw new IllegalArgumentException();
        }
    }

    private static boolean within(int number, int least, int most) {
        return least <= number && number <= most;
    }

    private String rowAt(int row) {
        index(within(row, 0, 3));
        return rows[row];
    }

    private String trackAt(int track) {
        index(within(track, 0, 1));
        return tracks[track];
    }

    private void step() {
        past.addLast(new String[][] {rows.clone(), tracks.clone()});
        if (past.size() > 6) {
            past.removeFirst();
        }
    }

    private int toRow(int row, String signs) {
        step();
        rows[row] = signs;
        return signs.length();
    }

    private int toTrack(int track, String units) {
        step();
        tracks[track] = units;
        return units.length();
    }

    private static boolean of(char sign, int kind) {
        return switch (kind) {
            case 0 -> Character.isDigit(sign);
            case 1 -> Character.isLetter(sign);
            case 2 -> Character.isLetterOrDigit(sign);
            case 3 -> Character.isWhitespace(sign);
            default -> Character.isUpperCase(sign);
        };
    }

    private static int differences(String one, String two) {
        int many = 0;
        for (int i = 0; i < one.length(); i++) {
            many += one.charAt(i) == two.charAt(i) ? 0 : 1;
        }
        return many;
    }

    private static String hex(String signs) {
        return HexFormat.of().formatHex(signs.getBytes(java.nio.charset.StandardCharsets.ISO_8859_1));
    }

    public int lay(int row, int a, int b, int c, int d) {
        String signs = rowAt(row);
        for (int sign : new int[] {a, b, c, d}) {
            argument(within(sign, -1, 255));
            signs += sign == -1 ? "" : String.valueOf((char) sign);
        }
        if (signs.length() > 40) {
            throw new IllegalStateException();
        }
        return toRow(row, signs);
    }

    public int drop(int row, int many) {
        String signs = rowAt(row);
        argument(within(many, 0, signs.length()));
        return toRow(row, signs.substring(0, signs.length() - many));
    }

    public int copy(int from, int to) {
        String signs = rowAt(from);
        int before = rowAt(to).length();
        toRow(to, signs);
        return before;
    }

    public int raise(int row) {
        String signs = rowAt(row);
        StringBuilder raised = new StringBuilder();
        for (char sign : signs.toCharArray()) {
            char upper = Character.toUpperCase(sign);
            raised.append(upper > 255 ? sign : upper);
        }
        toRow(row, raised.toString());
        return differences(signs, rows[row]);
    }

    public int sink(int row) {
        String signs = rowAt(row);
        toRow(row, signs.toLowerCase(java.util.Locale.ROOT));
        return differences(signs, rows[row]);
    }

    public int sieve(int row, int kind, boolean is) {
        String signs = rowAt(row);
        argument(within(kind, 0, 4));
        StringBuilder stay = new StringBuilder();
        signs.chars().filter(sign -> of((char) sign, kind) == is).forEach(sign -> stay.append((char) sign));
        return signs.length() - toRow(row, stay.toString());
    }

    public int strip(int row) {
        String signs = rowAt(row);
        return signs.length() - toRow(row, signs.strip());
    }

    public int turn(int row) {
        // The signs are no halves: reverse() turns them one by one.
        return toRow(row, new StringBuilder(rowAt(row)).reverse().toString());
    }

    public int write(int row, int number, int radix) {
        String signs = rowAt(row);
        argument(within(number, 0, 999999) && within(radix, 2, 36));
        String digits = Integer.toString(number, radix);
        if (signs.length() + digits.length() > 40) {
            return -9;
        }
        toRow(row, signs + digits);
        return digits.length();
    }

    public int spell(int from, int to) {
        String signs = rowAt(from);
        rowAt(to);
        argument(from != to);
        return signs.length() > 20 ? -9 : toRow(to, hex(signs));
    }

    public int read(int from, int to) {
        String signs = rowAt(from);
        rowAt(to);
        argument(from != to);
        if (!signs.matches("([0-9a-fA-F]{2})*")) {
            return -9;
        }
        byte[] bytes = HexFormat.of().parseHex(signs);
        return toRow(to, new String(bytes, java.nio.charset.StandardCharsets.ISO_8859_1));
    }

    public int send(int track, int code) {
        String units = trackAt(track);
        argument(Character.isValidCodePoint(code));
        String sent = units + new String(Character.toChars(code));
        return sent.length() > 24 ? -9 : toTrack(track, sent);
    }

    public int put(int track, int unit) {
        String units = trackAt(track);
        argument(within(unit, 0, 65535));
        return units.length() == 24 ? -9 : toTrack(track, units + (char) unit);
    }

    public int cut(int track, int many) {
        String units = trackAt(track);
        argument(within(many, 0, units.length()));
        return toTrack(track, units.substring(0, units.length() - many));
    }

    public int flip(int track) {
        StringBuilder turned = new StringBuilder();
        for (char unit : trackAt(track).toCharArray()) {
            turned.append(Character.reverseBytes(unit));
        }
        toTrack(track, turned.toString());
        return (int) tracks[track].chars().filter(unit -> Character.isSurrogate((char) unit)).count();
    }

    public int reverse(int track) {
        toTrack(track, new StringBuilder(trackAt(track)).reverse().toString());
        return ofTrack(track, 1);
    }

    public int undo() {
        if (past.isEmpty()) {
            throw new IllegalStateException();
        }
        String[][] before = past.removeLast();
        rows = before[0];
        tracks = before[1];
        return past.size();
    }

    public int knock() {
        return ++knocks;
    }

    private static char sign(int sign) {
        argument(within(sign, 0, 255));
        return (char) sign;
    }

    public boolean isDigit(int sign) {
        return of(sign(sign), 0);
    }

    public boolean isLetter(int sign) {
        return of(sign(sign), 1);
    }

    public boolean isLetterOrDigit(int sign) {
        return of(sign(sign), 2);
    }

    public boolean isWhite(int sign) {
        return of(sign(sign), 3);
    }

    public boolean isGreat(int sign) {
        return of(sign(sign), 4);
    }

    public int kinds(int sign) {
        int sum = 0;
        for (int kind = 4; kind >= 0; kind--) {
            sum = 2 * sum + (of(sign(sign), kind) ? 1 : 0);
        }
        return sum;
    }

    public int upper(int sign, boolean isCode) {
        return isCode ? Character.toUpperCase((int) sign(sign)) : Character.toUpperCase(sign(sign));
    }

    public int lower(int sign, boolean isCode) {
        return isCode ? Character.toLowerCase((int) sign(sign)) : Character.toLowerCase(sign(sign));
    }

    public int value(int sign, boolean isCode) {
        return isCode ? Character.getNumericValue((int) sign(sign)) : Character.getNumericValue(sign(sign));
    }

    public int number(int sign, int radix, boolean isCode) {
        return isCode ? Character.digit((int) sign(sign), radix) : Character.digit(sign(sign), radix);
    }

    public int digit(int number, int radix) {
        return Character.forDigit(number, radix);
    }

    public int length(int row) {
        return rowAt(row).length();
    }

    public int at(int row, int place) {
        index(within(place, 0, rowAt(row).length() - 1));
        return rowAt(row).charAt(place);
    }

    public int count(int row, int kind) {
        String signs = rowAt(row);
        argument(within(kind, 0, 4));
        return (int) signs.chars().filter(sign -> of((char) sign, kind)).count();
    }

    public int first(int row, int kind, int from) {
        String signs = rowAt(row);
        argument(within(kind, 0, 4) && from >= 0);
        int place = Math.min(from, signs.length());
        while (place < signs.length() && !of(signs.charAt(place), kind)) {
            place++;
        }
        return place < signs.length() ? place : -1;
    }

    public int last(int row, int kind) {
        String signs = rowAt(row);
        argument(within(kind, 0, 4));
        int place = signs.length() - 1;
        while (place >= 0 && !of(signs.charAt(place), kind)) {
            place--;
        }
        return place;
    }

    public String forms(int row) {
        StringBuilder forms = new StringBuilder();
        for (char sign : rowAt(row).toCharArray()) {
            forms.append(of(sign, 0) ? "d" : of(sign, 4) ? "u" : of(sign, 1) ? "l" : of(sign, 3) ? "w" : "-");
        }
        return forms.toString();
    }

    public String spelled(int row) {
        return hex(rowAt(row));
    }

    public int told(int row, int radix) {
        String signs = rowAt(row);
        argument(within(radix, 2, 36));
        for (char sign : signs.toCharArray()) {
            if (Character.digit(sign, radix) < 0) {
                return -9;
            }
        }
        return signs.isEmpty() ? -9
                : new java.math.BigInteger(signs, radix).mod(java.math.BigInteger.valueOf(1000003)).intValue();
    }

    public int sum(int row, int radix) {
        return rowAt(row).chars().map(sign -> Math.max(0, Character.digit(sign, radix))).sum();
    }

    public int values(int row) {
        return rowAt(row).chars().map(sign -> Math.max(0, Character.getNumericValue(sign))).sum();
    }

    private Matcher wordsOf(int row) {
        return Pattern.compile("[\\p{IsAlphabetic}\\p{IsDigit}]+").matcher(rowAt(row));
    }

    public int words(int row) {
        return (int) wordsOf(row).results().count();
    }

    public int word(int row, int k, boolean isLength) {
        Matcher words = wordsOf(row);
        index(within(k, 0, words(row) - 1));
        for (int ahead = 0; ahead <= k; ahead++) {
            words.find();
        }
        return isLength ? words.end() - words.start() : words.start();
    }

    public boolean isAlike(int row, int other) {
        String one = rowAt(row);
        String two = rowAt(other);
        if (one.length() != two.length()) {
            return false;
        }
        for (int place = 0; place < one.length(); place++) {
            if (Character.toUpperCase(one.charAt(place)) != Character.toUpperCase(two.charAt(place))) {
                return false;
            }
        }
        return true;
    }

    public int order(int row, int other) {
        return Integer.signum(rowAt(row).compareTo(rowAt(other)));
    }

    public boolean isCode(int number) {
        return Character.isValidCodePoint(number);
    }

    public boolean isPlain(int number) {
        return Character.isBmpCodePoint(number);
    }

    public boolean isWide(int number) {
        return Character.isSupplementaryCodePoint(number);
    }

    public int units(int number) {
        return Character.charCount(number);
    }

    public int half(int code, boolean isHigh) {
        argument(Character.isSupplementaryCodePoint(code));
        return isHigh ? Character.highSurrogate(code) : Character.lowSurrogate(code);
    }

    private static char unit(int unit) {
        argument(within(unit, 0, 65535));
        return (char) unit;
    }

    public int code(int high, int low) {
        argument(Character.isSurrogatePair(unit(high), unit(low)));
        return Character.toCodePoint((char) high, (char) low);
    }

    public int ofUnit(int unit, int what) {
        char asked = unit(unit);
        argument(within(what, 0, 3));
        return switch (what) {
            case 0 -> Character.isSurrogate(asked) ? 1 : 0;
            case 1 -> Character.isHighSurrogate(asked) ? 1 : 0;
            case 2 -> Character.isLowSurrogate(asked) ? 1 : 0;
            default -> Character.reverseBytes(asked);
        };
    }

    public int compare(int unit, int other) {
        return Integer.signum(Character.compare(unit(unit), unit(other)));
    }

    public int ofTrack(int track, int what) {
        String units = trackAt(track);
        argument(within(what, 0, 3));
        return (int) switch (what) {
            case 0 -> units.length();
            case 1 -> units.codePointCount(0, units.length());
            case 2 -> units.codePoints().filter(Character::isSupplementaryCodePoint).count();
            default -> units.codePoints().filter(code -> within(code, 0xD800, 0xDFFF)).count();
        };
    }

    public int unit(int track, int place) {
        index(within(place, 0, trackAt(track).length() - 1));
        return trackAt(track).charAt(place);
    }

    public int codeAt(int track, int place) {
        index(within(place, 0, trackAt(track).length() - 1));
        return trackAt(track).codePointAt(place);
    }

    public int nth(int track, int k) {
        int[] codes = trackAt(track).codePoints().toArray();
        index(within(k, 0, codes.length - 1));
        return codes[k];
    }

    public int house(int what) {
        argument(within(what, 0, 3));
        int[] answers = {String.join("", rows).length(), String.join("", tracks).length(), past.size(), knocks};
        return answers[what];
    }

    public boolean isSound() {
        return true;
    }

    public long digest() {
        long d = 7707;
        for (int row = 0; row < 4; row++) {
            d = d * 31 + length(row);
            for (char sign : rows[row].toCharArray()) {
                d = d * 31 + sign;
                d = d * 31 + kinds(sign);
                d = d * 31 + upper(sign, true);
                d = d * 31 + lower(sign, true);
                d = d * 31 + value(sign, true);
                d = d * 31 + number(sign, 16, true);
            }
            for (int kind = 0; kind < 5; kind++) {
                d = d * 31 + count(row, kind);
            }
            d = d * 31 + told(row, 36);
            d = d * 31 + values(row);
            d = d * 31 + words(row);
            d = d * 31 + forms(row).length();
            d = d * 31 + spelled(row).length();
        }
        d = d * 31 + order(0, 1);
        d = d * 31 + order(2, 3);
        d = d * 31 + (isAlike(0, 1) ? 1 : 0);
        for (int track = 0; track < 2; track++) {
            for (int what = 0; what < 4; what++) {
                d = d * 31 + ofTrack(track, what);
            }
            for (int place = 0; place < tracks[track].length(); place++) {
                d = d * 31 + unit(track, place);
                for (int what = 0; what < 4; what++) {
                    d = d * 31 + ofUnit(unit(track, place), what);
                }
                d = d * 31 + codeAt(track, place);
            }
        }
        for (int what = 0; what < 4; what++) {
            d = d * 31 + house(what);
        }
        return d * 31 + (isSound() ? 1 : 0);
    }
}
