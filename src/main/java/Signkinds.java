/**
 * Kinds of signs: SIGNS (0 to 255) with their kinds, values and digits, ROWS of them, and TRACKS of
 * the UNITS as which CODES are sent. The words in capitals are those of the document.
 */
public final class Signkinds {
    private static final int NONE = -1;
    private static final int NOT_DONE = -9;

    private static final int ROWS = 4;
    private static final int MOST_SIGNS = 40;
    private static final int TRACKS = 2;
    private static final int MOST_UNITS = 24;
    private static final int MOST_STEPS = 6;

    private static final int DIGIT = 0;
    private static final int LETTER = 1;
    private static final int LETTER_OR_DIGIT = 2;
    private static final int WHITE = 3;
    private static final int GREAT = 4;
    private static final int KINDS = 5;

    private static final int LEAST_RADIX = 2;
    private static final int MOST_RADIX = 36;
    private static final int SIXTEEN = 16;
    private static final int MOST_NUMBER = 999999;
    // 999999 has 20 DIGITS in the RADIX 2, and fewer in each other one.
    private static final int MOST_DIGITS = 20;
    private static final int TOLD_REST = 1000003;

    private static final int HOW_MANY_UNITS = 0;
    private static final int HOW_MANY_CODES = 1;
    private static final int HOW_MANY_WIDE = 2;
    private static final int HOW_MANY_LONE = 3;

    private static final long DIGEST_START = 7707L;

    private final State now = new State();
    private final Past past = new Past();
    // Made once and used by each reverse(), so that no call makes a row of its own.
    private final Line reversed = new Line(MOST_UNITS);
    private int knocks;

    public Signkinds() {
        knocks = 0;
    }

    // ==== what is done

    public int lay(int row, int a, int b, int c, int d)
            throws IndexOutOfBoundsException, IllegalArgumentException, IllegalStateException {
        Line line = rowOf(row);
        int more = laid(a) + laid(b) + laid(c) + laid(d);
        if (!line.hasRoomFor(more)) {
            throw new IllegalStateException("the row would have more than 40 signs");
        }
        past.keep(now);
        addLaid(line, a);
        addLaid(line, b);
        addLaid(line, c);
        addLaid(line, d);
        return line.size();
    }

    public int drop(int row, int many) throws IndexOutOfBoundsException, IllegalArgumentException {
        return shorten(rowOf(row), many);
    }

    public int copy(int from, int to) throws IndexOutOfBoundsException {
        Line source = rowOf(from);
        Line target = rowOf(to);
        int before = target.size();
        past.keep(now);
        if (from != to) {
            target.become(source);
        }
        return before;
    }

    public int raise(int row) throws IndexOutOfBoundsException {
        Line line = rowOf(row);
        past.keep(now);
        int others = 0;
        for (int place = 0; place < line.size(); place++) {
            int raised = Signs.upperOf(line.get(place));
            if (Signs.isSign(raised) && raised != line.get(place)) {
                line.set(place, raised);
                others++;
            }
        }
        return others;
    }

    public int sink(int row) throws IndexOutOfBoundsException {
        Line line = rowOf(row);
        past.keep(now);
        int others = 0;
        for (int place = 0; place < line.size(); place++) {
            int lowered = Signs.lowerOf(line.get(place));
            if (lowered != line.get(place)) {
                line.set(place, lowered);
                others++;
            }
        }
        return others;
    }

    public int sieve(int row, int kind, boolean is) throws IndexOutOfBoundsException, IllegalArgumentException {
        Line line = rowOf(row);
        checkKind(kind);
        past.keep(now);
        int stay = 0;
        for (int place = 0; place < line.size(); place++) {
            int sign = line.get(place);
            if (Signs.isOf(sign, kind) == is) {
                line.set(stay, sign);
                stay++;
            }
        }
        int gone = line.size() - stay;
        line.takeAway(gone);
        return gone;
    }

    public int strip(int row) throws IndexOutOfBoundsException {
        Line line = rowOf(row);
        past.keep(now);
        int before = line.size();
        int begin = 0;
        while (begin < before && Signs.isOf(line.get(begin), WHITE)) {
            begin++;
        }
        int end = before;
        while (end > begin && Signs.isOf(line.get(end - 1), WHITE)) {
            end--;
        }
        line.narrow(begin, end);
        return before - line.size();
    }

    public int turn(int row) throws IndexOutOfBoundsException {
        Line line = rowOf(row);
        past.keep(now);
        line.turnRound();
        return line.size();
    }

    public int write(int row, int number, int radix) throws IndexOutOfBoundsException, IllegalArgumentException {
        Line line = rowOf(row);
        if (number < 0 || number > MOST_NUMBER) {
            throw new IllegalArgumentException("the number is not 0 to 999999");
        }
        checkRadix(radix);
        int many = Signs.digitsOf(number, radix);
        if (!line.hasRoomFor(many)) {
            return NOT_DONE;
        }
        past.keep(now);
        for (int power = many - 1; power >= 0; power--) {
            line.add(Signs.digitOf(Signs.digitNumber(number, radix, power), radix));
        }
        return many;
    }

    public int spell(int from, int to) throws IndexOutOfBoundsException, IllegalArgumentException {
        Line source = rowOf(from);
        Line target = rowOf(to);
        checkAreTwo(from, to);
        if (source.size() * 2 > MOST_SIGNS) {
            return NOT_DONE;
        }
        past.keep(now);
        target.clear();
        for (int place = 0; place < source.size(); place++) {
            target.add(Signs.firstSpelled(source.get(place)));
            target.add(Signs.secondSpelled(source.get(place)));
        }
        return target.size();
    }

    public int read(int from, int to) throws IndexOutOfBoundsException, IllegalArgumentException {
        Line source = rowOf(from);
        Line target = rowOf(to);
        checkAreTwo(from, to);
        if (!canBeRead(source)) {
            return NOT_DONE;
        }
        past.keep(now);
        target.clear();
        for (int place = 0; place + 1 < source.size(); place += 2) {
            int great = Signs.numberOf(source.get(place), SIXTEEN);
            int small = Signs.numberOf(source.get(place + 1), SIXTEEN);
            target.add(great * SIXTEEN + small);
        }
        return target.size();
    }

    public int send(int track, int code) throws IndexOutOfBoundsException, IllegalArgumentException {
        Line line = trackOf(track);
        if (!Units.isAnyCode(code)) {
            throw new IllegalArgumentException("no such code");
        }
        if (!line.hasRoomFor(Units.unitsOf(code))) {
            return NOT_DONE;
        }
        past.keep(now);
        Units.addCode(line, code);
        return line.size();
    }

    public int put(int track, int unit) throws IndexOutOfBoundsException, IllegalArgumentException {
        Line line = trackOf(track);
        checkUnit(unit);
        if (!line.hasRoomFor(1)) {
            return NOT_DONE;
        }
        past.keep(now);
        line.add(unit);
        return line.size();
    }

    public int cut(int track, int many) throws IndexOutOfBoundsException, IllegalArgumentException {
        return shorten(trackOf(track), many);
    }

    public int flip(int track) throws IndexOutOfBoundsException {
        Line line = trackOf(track);
        past.keep(now);
        int halves = 0;
        for (int place = 0; place < line.size(); place++) {
            int turned = Units.turned(line.get(place));
            line.set(place, turned);
            if (Units.isHalf(turned)) {
                halves++;
            }
        }
        return halves;
    }

    public int reverse(int track) throws IndexOutOfBoundsException {
        Line line = trackOf(track);
        past.keep(now);
        Units.listCodes(line, reversed);
        line.clear();
        for (int k = reversed.size() - 1; k >= 0; k--) {
            Units.addCode(line, reversed.get(k));
        }
        return Units.howMany(line, HOW_MANY_CODES);
    }

    public int undo() throws IllegalStateException {
        if (past.size() == 0) {
            throw new IllegalStateException("no step can be undone");
        }
        past.bringBack(now);
        return past.size();
    }

    public int knock() {
        knocks++;
        return knocks;
    }

    // ==== signs

    public boolean isDigit(int sign) throws IllegalArgumentException {
        checkSign(sign);
        return Signs.isOf(sign, DIGIT);
    }

    public boolean isLetter(int sign) throws IllegalArgumentException {
        checkSign(sign);
        return Signs.isOf(sign, LETTER);
    }

    public boolean isLetterOrDigit(int sign) throws IllegalArgumentException {
        checkSign(sign);
        return Signs.isOf(sign, LETTER_OR_DIGIT);
    }

    public boolean isWhite(int sign) throws IllegalArgumentException {
        checkSign(sign);
        return Signs.isOf(sign, WHITE);
    }

    public boolean isGreat(int sign) throws IllegalArgumentException {
        checkSign(sign);
        return Signs.isOf(sign, GREAT);
    }

    public int kinds(int sign) throws IllegalArgumentException {
        checkSign(sign);
        return Signs.kindsOf(sign);
    }

    public int upper(int sign, boolean isCode) throws IllegalArgumentException {
        checkSign(sign);
        return Signs.upperOf(sign);
    }

    public int lower(int sign, boolean isCode) throws IllegalArgumentException {
        checkSign(sign);
        return Signs.lowerOf(sign);
    }

    public int value(int sign, boolean isCode) throws IllegalArgumentException {
        checkSign(sign);
        return Signs.signValue(sign);
    }

    public int number(int sign, int radix, boolean isCode) throws IllegalArgumentException {
        checkSign(sign);
        return Signs.numberOf(sign, radix);
    }

    public int digit(int number, int radix) {
        return Signs.digitOf(number, radix);
    }

    // ==== rows

    public int length(int row) throws IndexOutOfBoundsException {
        return rowOf(row).size();
    }

    public int at(int row, int place) throws IndexOutOfBoundsException {
        return numberAt(rowOf(row), place);
    }

    public int count(int row, int kind) throws IndexOutOfBoundsException, IllegalArgumentException {
        Line line = rowOf(row);
        checkKind(kind);
        int many = 0;
        for (int place = 0; place < line.size(); place++) {
            if (Signs.isOf(line.get(place), kind)) {
                many++;
            }
        }
        return many;
    }

    public int first(int row, int kind, int from) throws IndexOutOfBoundsException, IllegalArgumentException {
        Line line = rowOf(row);
        checkKind(kind);
        if (from < 0) {
            throw new IllegalArgumentException("the place is below 0");
        }
        for (int place = from; place < line.size(); place++) {
            if (Signs.isOf(line.get(place), kind)) {
                return place;
            }
        }
        return NONE;
    }

    public int last(int row, int kind) throws IndexOutOfBoundsException, IllegalArgumentException {
        Line line = rowOf(row);
        checkKind(kind);
        for (int place = line.size() - 1; place >= 0; place--) {
            if (Signs.isOf(line.get(place), kind)) {
                return place;
            }
        }
        return NONE;
    }

    public String forms(int row) throws IndexOutOfBoundsException {
        Line line = rowOf(row);
        StringBuilder text = new StringBuilder();
        for (int place = 0; place < line.size(); place++) {
            text.append(Signs.formOf(line.get(place)));
        }
        return text.toString();
    }

    public String spelled(int row) throws IndexOutOfBoundsException {
        Line line = rowOf(row);
        StringBuilder text = new StringBuilder();
        for (int place = 0; place < line.size(); place++) {
            text.append((char) Signs.firstSpelled(line.get(place)));
            text.append((char) Signs.secondSpelled(line.get(place)));
        }
        return text.toString();
    }

    public int told(int row, int radix) throws IndexOutOfBoundsException, IllegalArgumentException {
        Line line = rowOf(row);
        checkRadix(radix);
        if (line.size() == 0) {
            return NOT_DONE;
        }
        int told = 0;
        for (int place = 0; place < line.size(); place++) {
            int number = Signs.numberOf(line.get(place), radix);
            if (number == NONE) {
                return NOT_DONE;
            }
            told = (told * radix + number) % TOLD_REST;
        }
        return told;
    }

    public int sum(int row, int radix) throws IndexOutOfBoundsException {
        Line line = rowOf(row);
        int sum = 0;
        for (int place = 0; place < line.size(); place++) {
            int number = Signs.numberOf(line.get(place), radix);
            if (number != NONE) {
                sum += number;
            }
        }
        return sum;
    }

    public int values(int row) throws IndexOutOfBoundsException {
        Line line = rowOf(row);
        int sum = 0;
        for (int place = 0; place < line.size(); place++) {
            int value = Signs.signValue(line.get(place));
            if (value >= 0) {
                sum += value;
            }
        }
        return sum;
    }

    public int words(int row) throws IndexOutOfBoundsException {
        Line line = rowOf(row);
        int many = 0;
        for (int place = 0; place < line.size(); place++) {
            if (isWordBegin(line, place)) {
                many++;
            }
        }
        return many;
    }

    public int word(int row, int k, boolean isLength) throws IndexOutOfBoundsException {
        Line line = rowOf(row);
        int begin = wordBegin(line, k);
        if (begin == NONE) {
            throw new IndexOutOfBoundsException("no such word");
        }
        if (!isLength) {
            return begin;
        }
        int end = begin;
        while (end < line.size() && Signs.isOf(line.get(end), LETTER_OR_DIGIT)) {
            end++;
        }
        return end - begin;
    }

    public boolean isAlike(int row, int other) throws IndexOutOfBoundsException {
        Line one = rowOf(row);
        Line two = rowOf(other);
        if (one.size() != two.size()) {
            return false;
        }
        for (int place = 0; place < one.size(); place++) {
            if (Signs.upperOf(one.get(place)) != Signs.upperOf(two.get(place))) {
                return false;
            }
        }
        return true;
    }

    public int order(int row, int other) throws IndexOutOfBoundsException {
        Line one = rowOf(row);
        Line two = rowOf(other);
        for (int place = 0; place < one.size() && place < two.size(); place++) {
            if (one.get(place) != two.get(place)) {
                return ahead(one.get(place), two.get(place));
            }
        }
        return ahead(one.size(), two.size());
    }

    // ==== codes, units, tracks

    public boolean isCode(int number) {
        return Units.isAnyCode(number);
    }

    public boolean isPlain(int number) {
        return Units.isUnit(number);
    }

    public boolean isWide(int number) {
        return Units.isWideCode(number);
    }

    public int units(int number) {
        return Units.unitsOf(number);
    }

    public int half(int code, boolean isHigh) throws IllegalArgumentException {
        if (!Units.isWideCode(code)) {
            throw new IllegalArgumentException("no wide code");
        }
        return isHigh ? Units.highOf(code) : Units.lowOf(code);
    }

    public int code(int high, int low) throws IllegalArgumentException {
        if (!Units.isHigh(high) || !Units.isLow(low)) {
            throw new IllegalArgumentException("no high half and low half");
        }
        return Units.codeOf(high, low);
    }

    public int ofUnit(int unit, int what) throws IllegalArgumentException {
        checkUnit(unit);
        switch (what) {
            case 0:
                return Units.isHalf(unit) ? 1 : 0;
            case 1:
                return Units.isHigh(unit) ? 1 : 0;
            case 2:
                return Units.isLow(unit) ? 1 : 0;
            case 3:
                return Units.turned(unit);
            default:
                throw new IllegalArgumentException("what is not 0 to 3");
        }
    }

    public int compare(int unit, int other) throws IllegalArgumentException {
        checkUnit(unit);
        checkUnit(other);
        return ahead(unit, other);
    }

    public int ofTrack(int track, int what) throws IndexOutOfBoundsException, IllegalArgumentException {
        Line line = trackOf(track);
        if (what < HOW_MANY_UNITS || what > HOW_MANY_LONE) {
            throw new IllegalArgumentException("what is not 0 to 3");
        }
        return Units.howMany(line, what);
    }

    public int unit(int track, int place) throws IndexOutOfBoundsException {
        return numberAt(trackOf(track), place);
    }

    public int codeAt(int track, int place) throws IndexOutOfBoundsException {
        Line line = trackOf(track);
        if (!line.hasPlace(place)) {
            throw new IndexOutOfBoundsException("no such place");
        }
        return Units.codeFrom(line, place);
    }

    public int nth(int track, int k) throws IndexOutOfBoundsException {
        Line line = trackOf(track);
        int begin = Units.codeBegin(line, k);
        if (begin == NONE) {
            throw new IndexOutOfBoundsException("no such code");
        }
        return Units.codeFrom(line, begin);
    }

    // ==== the whole

    public int house(int what) throws IllegalArgumentException {
        switch (what) {
            case 0:
                return now.howManySigns();
            case 1:
                return now.howManyUnits();
            case 2:
                return past.size();
            case 3:
                return knocks;
            default:
                throw new IllegalArgumentException("what is not 0 to 3");
        }
    }

    public boolean isSound() {
        for (int row = 0; row < ROWS; row++) {
            if (!isSoundRow(rowOf(row))) {
                return false;
            }
        }
        for (int track = 0; track < TRACKS; track++) {
            if (!isSoundTrack(trackOf(track))) {
                return false;
            }
        }
        return true;
    }

    public long digest() {
        long d = DIGEST_START;
        for (int row = 0; row < ROWS; row++) {
            d = withRow(d, row);
        }
        d = with(d, order(0, 1));
        d = with(d, order(2, 3));
        d = with(d, isAlike(0, 1) ? 1 : 0);
        for (int track = 0; track < TRACKS; track++) {
            d = withTrack(d, track);
        }
        for (int what = 0; what <= 3; what++) {
            d = with(d, house(what));
        }
        return with(d, isSound() ? 1 : 0);
    }

    // ==== what the calls are checked by

    private Line rowOf(int row) {
        if (row < 0 || row >= ROWS) {
            throw new IndexOutOfBoundsException("no such row");
        }
        return now.rows[row];
    }

    private Line trackOf(int track) {
        if (track < 0 || track >= TRACKS) {
            throw new IndexOutOfBoundsException("no such track");
        }
        return now.tracks[track];
    }

    private static int numberAt(Line line, int place) {
        if (!line.hasPlace(place)) {
            throw new IndexOutOfBoundsException("no such place");
        }
        return line.get(place);
    }

    private static void checkSign(int sign) {
        if (!Signs.isSign(sign)) {
            throw new IllegalArgumentException("no such sign");
        }
    }

    private static void checkKind(int kind) {
        if (kind < 0 || kind >= KINDS) {
            throw new IllegalArgumentException("the kind is not 0 to 4");
        }
    }

    private static void checkRadix(int radix) {
        if (!Signs.isRadix(radix)) {
            throw new IllegalArgumentException("the radix is not 2 to 36");
        }
    }

    private static void checkUnit(int unit) {
        if (!Units.isUnit(unit)) {
            throw new IllegalArgumentException("no such unit");
        }
    }

    private static void checkAreTwo(int from, int to) {
        if (from == to) {
            throw new IllegalArgumentException("both rows are the same");
        }
    }

    // ==== parts of the calls

    /** How many SIGNS come by what is laid: 1, or 0 for NONE. */
    private static int laid(int signOrNone) {
        if (signOrNone == NONE) {
            return 0;
        }
        checkSign(signOrNone);
        return 1;
    }

    private static void addLaid(Line line, int signOrNone) {
        if (signOrNone != NONE) {
            line.add(signOrNone);
        }
    }

    private int shorten(Line line, int many) {
        if (many < 0 || many > line.size()) {
            throw new IllegalArgumentException("there are not so many");
        }
        past.keep(now);
        line.takeAway(many);
        return line.size();
    }

    private static boolean canBeRead(Line line) {
        if (line.size() % 2 != 0) {
            return false;
        }
        for (int place = 0; place < line.size(); place++) {
            if (Signs.numberOf(line.get(place), SIXTEEN) == NONE) {
                return false;
            }
        }
        return true;
    }

    private static boolean isWordBegin(Line line, int place) {
        if (!Signs.isOf(line.get(place), LETTER_OR_DIGIT)) {
            return false;
        }
        return place == 0 || !Signs.isOf(line.get(place - 1), LETTER_OR_DIGIT);
    }

    /** The first place of the k-th WORD; NONE without it. */
    private static int wordBegin(Line line, int k) {
        int ahead = 0;
        for (int place = 0; place < line.size(); place++) {
            if (isWordBegin(line, place)) {
                if (ahead == k) {
                    return place;
                }
                ahead++;
            }
        }
        return NONE;
    }

    private static int ahead(int one, int two) {
        if (one == two) {
            return 0;
        }
        return one < two ? -1 : 1;
    }

    private static boolean isSoundRow(Line line) {
        if (line.size() > MOST_SIGNS) {
            return false;
        }
        for (int place = 0; place < line.size(); place++) {
            if (!Signs.isSoundSign(line.get(place))) {
                return false;
            }
        }
        return true;
    }

    private static boolean isSoundTrack(Line line) {
        return line.size() <= MOST_UNITS && Units.areSentAgain(line);
    }

    private static long with(long d, long v) {
        return d * 31 + v;
    }

    private long withRow(long start, int row) {
        Line line = rowOf(row);
        long d = with(start, line.size());
        for (int place = 0; place < line.size(); place++) {
            int sign = line.get(place);
            d = with(d, sign);
            d = with(d, Signs.kindsOf(sign));
            d = with(d, Signs.upperOf(sign));
            d = with(d, Signs.lowerOf(sign));
            d = with(d, Signs.signValue(sign));
            d = with(d, Signs.numberOf(sign, SIXTEEN));
        }
        for (int kind = 0; kind < KINDS; kind++) {
            d = with(d, count(row, kind));
        }
        d = with(d, told(row, MOST_RADIX));
        d = with(d, values(row));
        d = with(d, words(row));
        // The lengths of forms() and spelled(), without a text being made: a FORM for each SIGN, two DIGITS for each.
        d = with(d, line.size());
        return with(d, 2 * line.size());
    }

    private long withTrack(long start, int track) {
        Line line = trackOf(track);
        long d = start;
        for (int what = HOW_MANY_UNITS; what <= HOW_MANY_LONE; what++) {
            d = with(d, Units.howMany(line, what));
        }
        for (int place = 0; place < line.size(); place++) {
            int unit = line.get(place);
            d = with(d, unit);
            for (int what = 0; what <= 3; what++) {
                d = with(d, ofUnit(unit, what));
            }
            d = with(d, Units.codeFrom(line, place));
        }
        return d;
    }

    /** What part 1 of the document tells of SIGNS. */
    private static final class Signs {
        static boolean isSign(int number) {
            return isBetween(number, 0, 255);
        }

        static boolean isRadix(int number) {
            return isBetween(number, LEAST_RADIX, MOST_RADIX);
        }

        static boolean isOf(int sign, int kind) {
            switch (kind) {
                case DIGIT:
                    return isPlainDigit(sign);
                case LETTER:
                    return isAnyLetter(sign);
                case LETTER_OR_DIGIT:
                    return isAnyLetter(sign) || isPlainDigit(sign);
                case WHITE:
                    return isBetween(sign, 9, 13) || isBetween(sign, 28, 32);
                case GREAT:
                    return isAnyGreat(sign);
                default:
                    return false;
            }
        }

        static int kindsOf(int sign) {
            int sum = 0;
            for (int kind = 0; kind < KINDS; kind++) {
                if (isOf(sign, kind)) {
                    sum += 1 << kind;
                }
            }
            return sum;
        }

        static int upperOf(int sign) {
            if (isSmallPlain(sign) || isBetween(sign, 224, 246) || isBetween(sign, 248, 254)) {
                return sign - 32;
            }
            if (sign == 181) {
                return 924;
            }
            return sign == 255 ? 376 : sign;
        }

        static int lowerOf(int sign) {
            return isAnyGreat(sign) ? sign + 32 : sign;
        }

        static int signValue(int sign) {
            switch (sign) {
                case 178:
                    return 2;
                case 179:
                    return 3;
                case 185:
                    return 1;
                case 188:
                case 189:
                case 190:
                    return -2;
                default:
                    return plainValueOf(sign);
            }
        }

        static int numberOf(int sign, int radix) {
            int value = plainValueOf(sign);
            return isRadix(radix) && value < radix ? value : NONE;
        }

        static int digitOf(int number, int radix) {
            if (!isRadix(radix) || number < 0 || number >= radix) {
                return 0;
            }
            return number < 10 ? number + 48 : number + 87;
        }

        /** How many DIGITS a number from 0 to 999999 is written with. */
        static int digitsOf(int number, int radix) {
            int many = 1;
            while (many < MOST_DIGITS && shifted(number, radix, many) > 0) {
                many++;
            }
            return many;
        }

        /** The number of the DIGIT that stands for that power of the RADIX. */
        static int digitNumber(int number, int radix, int power) {
            return isRadix(radix) ? shifted(number, radix, power) % radix : 0;
        }

        /** The number without as many of its last DIGITS. */
        private static int shifted(int number, int radix, int many) {
            if (!isRadix(radix)) {
                return 0;
            }
            int rest = number;
            for (int k = 0; k < many; k++) {
                rest = rest / radix;
            }
            return rest;
        }

        static int firstSpelled(int sign) {
            return digitOf(sign / SIXTEEN, SIXTEEN);
        }

        static int secondSpelled(int sign) {
            return digitOf(sign % SIXTEEN, SIXTEEN);
        }

        static char formOf(int sign) {
            if (isOf(sign, DIGIT)) {
                return 'd';
            }
            if (isOf(sign, GREAT)) {
                return 'u';
            }
            if (isOf(sign, LETTER)) {
                return 'l';
            }
            return isOf(sign, WHITE) ? 'w' : '-';
        }

        static boolean isSoundSign(int sign) {
            boolean isEither = isOf(sign, LETTER) || isOf(sign, DIGIT);
            if (isOf(sign, LETTER_OR_DIGIT) != isEither) {
                return false;
            }
            int lower = lowerOf(sign);
            if (isOf(sign, GREAT) && (lower == sign || upperOf(lower) != sign)) {
                return false;
            }
            int number = numberOf(sign, MOST_RADIX);
            return number == NONE || upperOf(digitOf(number, MOST_RADIX)) == upperOf(sign);
        }

        /** The VALUE of one of 48 to 57, 65 to 90, 97 to 122; NONE of each other one. */
        private static int plainValueOf(int sign) {
            if (isPlainDigit(sign)) {
                return sign - 48;
            }
            if (isGreatPlain(sign)) {
                return sign - 55;
            }
            return isSmallPlain(sign) ? sign - 87 : NONE;
        }

        private static boolean isPlainDigit(int sign) {
            return sign >= 48 && sign <= 57;
        }

        private static boolean isGreatPlain(int sign) {
            return sign >= 65 && sign <= 90;
        }

        private static boolean isSmallPlain(int sign) {
            return sign >= 97 && sign <= 122;
        }

        private static boolean isAnyGreat(int sign) {
            return isGreatPlain(sign) || isBetween(sign, 192, 214) || isBetween(sign, 216, 222);
        }

        private static boolean isAnyLetter(int sign) {
            if (isGreatPlain(sign) || isSmallPlain(sign)) {
                return true;
            }
            if (sign == 170 || sign == 181 || sign == 186) {
                return true;
            }
            return isBetween(sign, 192, 214) || isBetween(sign, 216, 246) || isBetween(sign, 248, 255);
        }

        private static boolean isBetween(int number, int least, int most) {
            return number >= least && number <= most;
        }
    }

    /** What part 3 of the document tells of CODES and UNITS, and of the CODES in a Line of UNITS. */
    private static final class Units {
        private static final int FIRST_HIGH = 55296;
        private static final int FIRST_LOW = 56320;
        private static final int BEHIND_LOW = 57344;
        private static final int FIRST_WIDE = 65536;
        private static final int LAST_CODE = 1114111;
        private static final int LOW_ONES = 1024;
        private static final int TURN = 256;

        static boolean isUnit(int number) {
            return number >= 0 && number < FIRST_WIDE;
        }

        static boolean isHigh(int unit) {
            return unit >= FIRST_HIGH && unit < FIRST_LOW;
        }

        static boolean isLow(int unit) {
            return unit >= FIRST_LOW && unit < BEHIND_LOW;
        }

        static boolean isHalf(int unit) {
            return isHigh(unit) || isLow(unit);
        }

        static boolean isAnyCode(int number) {
            return number >= 0 && number <= LAST_CODE;
        }

        static boolean isWideCode(int number) {
            return number >= FIRST_WIDE && number <= LAST_CODE;
        }

        static int unitsOf(int number) {
            return number >= FIRST_WIDE ? 2 : 1;
        }

        static int highOf(int code) {
            return FIRST_HIGH + (code - FIRST_WIDE) / LOW_ONES;
        }

        static int lowOf(int code) {
            return FIRST_LOW + (code - FIRST_WIDE) % LOW_ONES;
        }

        static int codeOf(int high, int low) {
            return FIRST_WIDE + (high - FIRST_HIGH) * LOW_ONES + (low - FIRST_LOW);
        }

        static int turned(int unit) {
            return unit % TURN * TURN + unit / TURN;
        }

        static void addCode(Line track, int code) {
            if (isWideCode(code)) {
                track.add(highOf(code));
                track.add(lowOf(code));
            } else {
                track.add(code);
            }
        }

        /** The CODE at a place of the TRACK. */
        static int codeFrom(Line track, int place) {
            int unit = track.get(place);
            // A Line answers NONE, which is no HALF, where it has no such place.
            if (isHigh(unit) && isLow(track.get(place + 1))) {
                return codeOf(unit, track.get(place + 1));
            }
            return unit;
        }

        /** Whether a CODE of the TRACK begins there. */
        static boolean isCodeBegin(Line track, int place) {
            // A HIGH HALF is never the second UNIT of a CODE, so a LOW one behind it always is one.
            return place == 0 || !isLow(track.get(place)) || !isHigh(track.get(place - 1));
        }

        /** The place of the k-th CODE; NONE without it. */
        static int codeBegin(Line track, int k) {
            int ahead = 0;
            for (int place = 0; place < track.size(); place++) {
                if (isCodeBegin(track, place)) {
                    if (ahead == k) {
                        return place;
                    }
                    ahead++;
                }
            }
            return NONE;
        }

        /** The list becomes the CODES of the TRACK. */
        static void listCodes(Line track, Line list) {
            list.clear();
            for (int place = 0; place < track.size(); place++) {
                if (isCodeBegin(track, place)) {
                    list.add(codeFrom(track, place));
                }
            }
        }

        static int howMany(Line track, int what) {
            if (what == HOW_MANY_UNITS) {
                return track.size();
            }
            int many = 0;
            for (int place = 0; place < track.size(); place++) {
                if (isCodeBegin(track, place) && isCounted(codeFrom(track, place), what)) {
                    many++;
                }
            }
            return many;
        }

        private static boolean isCounted(int code, int what) {
            switch (what) {
                case HOW_MANY_CODES:
                    return true;
                case HOW_MANY_WIDE:
                    return isWideCode(code);
                case HOW_MANY_LONE:
                    return isHalf(code);
                default:
                    return false;
            }
        }

        /** Whether the CODES of the TRACK, SENT one behind the other, are its UNITS. */
        static boolean areSentAgain(Line track) {
            int sent = 0;
            for (int place = 0; place < track.size(); place++) {
                if (isCodeBegin(track, place)) {
                    int code = codeFrom(track, place);
                    if (!standsAt(track, sent, code)) {
                        return false;
                    }
                    sent += unitsOf(code);
                }
            }
            return sent == track.size();
        }

        /** Whether the UNITS of the CODE stand from that place on. */
        private static boolean standsAt(Line track, int place, int code) {
            if (!isWideCode(code)) {
                return track.get(place) == code;
            }
            return track.get(place) == highOf(code) && track.get(place + 1) == lowOf(code);
        }
    }

    /** Numbers at the places from 0 on, at most as many as it was made for. */
    private static final class Line {
        private final int[] numbers;
        private int size;

        Line(int most) {
            numbers = new int[most < 0 ? 0 : most];
            size = 0;
        }

        int size() {
            return size;
        }

        boolean hasPlace(int place) {
            return place >= 0 && place < size && place < numbers.length;
        }

        boolean hasRoomFor(int more) {
            return more <= numbers.length - size;
        }

        /** The number at the place; NONE without such a place. */
        int get(int place) {
            return hasPlace(place) ? numbers[place] : NONE;
        }

        void set(int place, int number) {
            if (hasPlace(place)) {
                numbers[place] = number;
            }
        }

        void add(int number) {
            if (size >= 0 && size < numbers.length) {
                numbers[size] = number;
                size++;
            }
        }

        void clear() {
            size = 0;
        }

        /** The last ones go. */
        void takeAway(int many) {
            if (many >= 0 && many <= size) {
                size -= many;
            }
        }

        /** Only those from begin on, and ahead of end, stay. */
        void narrow(int begin, int end) {
            size = 0;
            for (int place = begin; place >= 0 && place < end && place < numbers.length; place++) {
                add(numbers[place]);
            }
        }

        void turnRound() {
            int begin = 0;
            int end = size - 1;
            while (begin < end) {
                int number = get(begin);
                set(begin, get(end));
                set(end, number);
                begin++;
                end--;
            }
        }

        void become(Line other) {
            size = 0;
            for (int place = 0; place < other.size; place++) {
                add(other.get(place));
            }
        }
    }

    /** All ROWS and TRACKS, as they are at one time. */
    private static final class State {
        private final Line[] rows = new Line[ROWS];
        private final Line[] tracks = new Line[TRACKS];

        State() {
            for (int row = 0; row < ROWS; row++) {
                rows[row] = new Line(MOST_SIGNS);
            }
            for (int track = 0; track < TRACKS; track++) {
                tracks[track] = new Line(MOST_UNITS);
            }
        }

        int howManySigns() {
            int sum = 0;
            for (int row = 0; row < ROWS; row++) {
                sum += rows[row].size();
            }
            return sum;
        }

        int howManyUnits() {
            int sum = 0;
            for (int track = 0; track < TRACKS; track++) {
                sum += tracks[track].size();
            }
            return sum;
        }

        void become(State other) {
            for (int row = 0; row < ROWS; row++) {
                rows[row].become(other.rows[row]);
            }
            for (int track = 0; track < TRACKS; track++) {
                tracks[track].become(other.tracks[track]);
            }
        }
    }

    /** What was ahead of each STEP that can be undone, of the last STEP first. */
    private static final class Past {
        private final State[] states = new State[MOST_STEPS];
        private int size;

        Past() {
            for (int k = 0; k < MOST_STEPS; k++) {
                states[k] = new State();
            }
            size = 0;
        }

        int size() {
            return size;
        }

        /** Keeps the state ahead of a STEP; the oldest one is given up, and used again for it. */
        void keep(State now) {
            State used = states[MOST_STEPS - 1];
            for (int k = MOST_STEPS - 1; k > 0; k--) {
                states[k] = states[k - 1];
            }
            states[0] = used;
            used.become(now);
            if (size < MOST_STEPS) {
                size++;
            }
        }

        /** Makes the state what it was ahead of the last STEP. */
        void bringBack(State now) {
            if (size == 0) {
                return;
            }
            State last = states[0];
            now.become(last);
            for (int k = 0; k + 1 < MOST_STEPS; k++) {
                states[k] = states[k + 1];
            }
            states[MOST_STEPS - 1] = last;
            size--;
        }
    }
}
