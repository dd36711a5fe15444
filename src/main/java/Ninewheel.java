/** Four decimals of few places and three fractions whose digits go round; ../shared/DOC.md tells all of it. */
public final class Ninewheel {
    private static final int CELLS = 4;
    private static final int WHEELS = 3;
    private static final int MOST_COUNT = 999999;
    private static final int MOST_PLACES = 3;
    private static final int MOST_BY = 99;
    private static final int MOST_BOTTOM = 99;
    private static final int LONGEST_WHEEL = 96;
    private static final int FARTHEST_PLACE = 200;
    private static final int MOST_DIGITS_ASKED = 16;
    private static final int MOST_PLACES_ASKED = 16;
    private static final int LEAST_PARTS = 2;
    private static final int MOST_PARTS = 12;

    private static final int WAY_FARTHER = 0;
    private static final int WAY_NEARER = 1;
    private static final int WAY_GREATER = 2;
    private static final int WAY_LESSER = 3;
    private static final int WAY_HALF_FARTHER = 4;
    private static final int WAY_HALF_NEARER = 5;
    private static final int WAY_HALF_EVEN = 6;
    private static final int WAY_NONE = 7;

    private static final int DECLINED = -9;
    // Far beyond each COUNT that comes up, so a refused rounding falls at the same gate as a result that does not fit.
    private static final long REFUSED = -9000000000000000000L;

    private static final int DECIMAL_ACTS = 0;
    private static final int WHEEL_ACTS = 1;
    private static final int DECLINES = 2;
    private static final int KNOCKS = 3;
    private static final int TALLIES = 4;

    private static final int DIGEST_START = 7944;
    private static final int SOUND_PLACES = 5;

    // Of each cell its COUNT and its PLACES; of each wheel its TOP, its BOTTOM, its PLACE and its LENGTH.
    private final int[] counts = new int[CELLS];
    private final int[] points = new int[CELLS];
    private final int[] tops = new int[WHEELS];
    private final int[] bottoms = new int[WHEELS];
    private final int[] turned = new int[WHEELS];
    private final int[] lengths = new int[WHEELS];
    private final int[] tallies = new int[TALLIES];
    private final LongNumber work = new LongNumber();
    private final LongNumber measure = new LongNumber();

    public Ninewheel() {
        for (int wheel = 0; wheel < WHEELS; wheel++) {
            bottoms[wheel] = 1;
            lengths[wheel] = 1;
        }
    }

    // ---- acts on decimals

    public int put(int cell, int count, int places) throws IndexOutOfBoundsException, IllegalArgumentException {
        requireCell(cell);
        requireBetween(count, -MOST_COUNT, MOST_COUNT);
        requireBetween(places, 0, MOST_PLACES);
        return bring(cell, count, places);
    }

    public int write(int cell, boolean isMinus, int whole, int many, int tail)
            throws IndexOutOfBoundsException, IllegalArgumentException {
        requireCell(cell);
        requireBetween(whole, 0, MOST_COUNT);
        requireBetween(many, 0, MOST_PLACES);
        requireBetween(tail, 0, tenTo(many) - 1);
        long written = whole * tenTo(many) + tail;
        return bring(cell, isMinus ? -written : written, many);
    }

    public int copy(int cell, int into) throws IndexOutOfBoundsException {
        requireCell(cell);
        requireCell(into);
        return bring(into, counts[cell], points[cell]);
    }

    public int negate(int cell) throws IndexOutOfBoundsException {
        requireCell(cell);
        return bring(cell, -counts[cell], points[cell]);
    }

    public int size(int cell) throws IndexOutOfBoundsException {
        requireCell(cell);
        return bring(cell, Math.abs(counts[cell]), points[cell]);
    }

    public int add(int cell, int other, int into) throws IndexOutOfBoundsException {
        requireCell(cell);
        requireCell(other);
        requireCell(into);
        int places = Math.max(points[cell], points[other]);
        return bring(into, countAt(cell, places) + countAt(other, places), places);
    }

    public int subtract(int cell, int other, int into) throws IndexOutOfBoundsException {
        requireCell(cell);
        requireCell(other);
        requireCell(into);
        int places = Math.max(points[cell], points[other]);
        return bring(into, countAt(cell, places) - countAt(other, places), places);
    }

    public int multiply(int cell, int other, int into) throws IndexOutOfBoundsException {
        requireCell(cell);
        requireCell(other);
        requireCell(into);
        return bring(into, (long) counts[cell] * counts[other], points[cell] + points[other]);
    }

    public int power(int cell, int raise, int into) throws IndexOutOfBoundsException, IllegalArgumentException {
        requireCell(cell);
        requireCell(into);
        requireBetween(raise, 0, 3);
        long result = 1;
        for (int factor = 0; factor < raise; factor++) {
            result *= counts[cell];
        }
        return bring(into, result, raise * points[cell]);
    }

    public int divide(int cell, int other, int places, int way, int into)
            throws IndexOutOfBoundsException, IllegalArgumentException {
        requireCell(cell);
        requireCell(other);
        requireCell(into);
        requireBetween(places, 0, MOST_PLACES);
        requireWay(way);
        long value = counts[cell] * tenTo(points[other]) * tenTo(places);
        long by = counts[other] * tenTo(points[cell]);
        if (by == 0) {
            return decline();
        }
        return bring(into, by < 0 ? rounded(-value, -by, way) : rounded(value, by, way), places);
    }

    public int share(int cell, int by, int into) throws IndexOutOfBoundsException, IllegalArgumentException {
        requireCell(cell);
        requireCell(into);
        requireBetween(by, -MOST_BY, MOST_BY);
        if (by == 0) {
            return decline();
        }
        long value = counts[cell];
        int places = points[cell];
        while (value % by != 0 && places < MOST_PLACES) {
            value *= 10;
            places++;
        }
        return value % by == 0 ? bring(into, value / by, places) : decline();
    }

    public int whole(int cell, int by, int into) throws IndexOutOfBoundsException, IllegalArgumentException {
        requireCell(cell);
        requireCell(into);
        requireBetween(by, -MOST_BY, MOST_BY);
        long wholeBy = by * tenTo(points[cell]);
        return wholeBy == 0 ? decline() : bring(into, counts[cell] / wholeBy, 0);
    }

    public int rest(int cell, int by, int into) throws IndexOutOfBoundsException, IllegalArgumentException {
        requireCell(cell);
        requireCell(into);
        requireBetween(by, -MOST_BY, MOST_BY);
        long wholeBy = by * tenTo(points[cell]);
        return wholeBy == 0 ? decline() : bring(into, counts[cell] % wholeBy, points[cell]);
    }

    public int setPlaces(int cell, int places, int way) throws IndexOutOfBoundsException, IllegalArgumentException {
        requireCell(cell);
        requireBetween(places, 0, MOST_PLACES);
        requireWay(way);
        return bring(cell, rounded(counts[cell] * tenTo(places), tenTo(points[cell]), way), places);
    }

    public int strip(int cell) throws IndexOutOfBoundsException {
        requireCell(cell);
        int count = counts[cell];
        int places = points[cell];
        while (places > 0 && count % 10 == 0) {
            count /= 10;
            places--;
        }
        return bring(cell, count, places);
    }

    public int move(int cell, int left) throws IndexOutOfBoundsException, IllegalArgumentException {
        requireCell(cell);
        requireBetween(left, -3, 3);
        return bringAt(cell, counts[cell], points[cell] + left);
    }

    public int round(int cell, int digits, int way) throws IndexOutOfBoundsException, IllegalArgumentException {
        requireCell(cell);
        requireBetween(digits, 1, 6);
        requireWay(way);
        int tooMany = digitsIn(counts[cell]) - digits;
        if (tooMany <= 0) {
            return bring(cell, counts[cell], points[cell]);
        }
        long units = rounded(counts[cell], tenTo(tooMany), way);
        if (units == REFUSED) {
            return decline();
        }
        int places = points[cell] - tooMany;
        // Only a unit count of 1 and zeros behind it can have become longer, so the zero goes without loss.
        if (digitsIn(units) > digits) {
            units /= 10;
            places--;
        }
        return bringAt(cell, units, places);
    }

    public int greater(int cell, int other, int into) throws IndexOutOfBoundsException {
        requireCell(cell);
        requireCell(other);
        requireCell(into);
        int chosen = orderOfCells(cell, other) < 0 ? other : cell;
        return bring(into, counts[chosen], points[chosen]);
    }

    public int lesser(int cell, int other, int into) throws IndexOutOfBoundsException {
        requireCell(cell);
        requireCell(other);
        requireCell(into);
        int chosen = orderOfCells(cell, other) > 0 ? other : cell;
        return bring(into, counts[chosen], points[chosen]);
    }

    public int cut(int wheel, boolean isMinus, int places, int way, int into)
            throws IndexOutOfBoundsException, IllegalArgumentException {
        requireWheel(wheel);
        requireCell(into);
        requireBetween(places, 0, MOST_PLACES);
        requireWay(way);
        return bring(into, cutCount(wheel, isMinus, places, way), places);
    }

    // ---- what is asked of decimals

    public int count(int cell) throws IndexOutOfBoundsException {
        requireCell(cell);
        return counts[cell];
    }

    public int places(int cell) throws IndexOutOfBoundsException {
        requireCell(cell);
        return points[cell];
    }

    public int digits(int cell) throws IndexOutOfBoundsException {
        requireCell(cell);
        return digitsIn(counts[cell]);
    }

    public int sign(int cell) throws IndexOutOfBoundsException {
        requireCell(cell);
        return signOf(counts[cell]);
    }

    public String text(int cell, int how) throws IndexOutOfBoundsException, IllegalArgumentException {
        requireCell(cell);
        requireBetween(how, 0, 1);
        return decimalText(counts[cell], points[cell]);
    }

    public int order(int cell, int other) throws IndexOutOfBoundsException {
        requireCell(cell);
        requireCell(other);
        return orderOfCells(cell, other);
    }

    public boolean same(int cell, int other) throws IndexOutOfBoundsException {
        requireCell(cell);
        requireCell(other);
        return areSame(cell, other);
    }

    // ---- acts on wheels

    public int setWheel(int wheel, int top, int bottom) throws IndexOutOfBoundsException, IllegalArgumentException {
        requireWheel(wheel);
        requireBottom(bottom);
        requireBetween(top, 0, bottom - 1);
        bringWheel(wheel, top, bottom);
        return lengths[wheel];
    }

    public int step(int wheel) throws IndexOutOfBoundsException {
        requireWheel(wheel);
        int digit = digitAfter(restOfPlace(wheel, turned[wheel]), bottoms[wheel]);
        turnBy(wheel, 1);
        return digit;
    }

    public int turn(int wheel, int many) throws IndexOutOfBoundsException, IllegalArgumentException {
        requireWheel(wheel);
        requireBetween(many, 0, FARTHEST_PLACE);
        turnBy(wheel, many);
        return restOfPlace(wheel, turned[wheel]);
    }

    public int times(int wheel, int by, int into) throws IndexOutOfBoundsException, IllegalArgumentException {
        requireWheel(wheel);
        requireWheel(into);
        requireBetween(by, 0, MOST_BY);
        bringWheel(into, leftover(by * tops[wheel], bottoms[wheel]), bottoms[wheel]);
        return tops[into];
    }

    // ---- what is asked of wheels

    public int spoke(int wheel, int what) throws IndexOutOfBoundsException, IllegalArgumentException {
        requireWheel(wheel);
        requireBetween(what, 0, 4);
        return spokeOf(wheel, what);
    }

    public int lowest(int wheel) throws IndexOutOfBoundsException {
        requireWheel(wheel);
        int bottom = bottoms[wheel];
        for (int tried = 1; tried < bottom; tried++) {
            if (leftover(tried * tops[wheel], bottom) == 0) {
                return tried;
            }
        }
        return bottom;
    }

    public int tens(int by) throws IllegalArgumentException {
        requireBottom(by);
        // 10^L - 1 is a multiple of by exactly when the rests of 1 / by have come round to 1 behind L places.
        return lengthOf(leftover(1, by), by);
    }

    public int restAt(int wheel, int place) throws IndexOutOfBoundsException, IllegalArgumentException {
        requireWheel(wheel);
        requireBetween(place, 0, FARTHEST_PLACE);
        return restOfPlace(wheel, place);
    }

    public String digitsFrom(int wheel, int place, int many)
            throws IndexOutOfBoundsException, IllegalArgumentException {
        requireWheel(wheel);
        requireBetween(place, 0, FARTHEST_PLACE);
        requireBetween(many, 1, MOST_DIGITS_ASKED);
        return digitText(wheel, place, many);
    }

    public String cutText(int wheel, boolean isMinus, int places, int way)
            throws IndexOutOfBoundsException, IllegalArgumentException {
        requireWheel(wheel);
        requireBetween(places, 0, MOST_PLACES_ASKED);
        requireWay(way);
        long count = cutCount(wheel, isMinus, places, way);
        return count == REFUSED ? "-9" : decimalText(count, places);
    }

    public String number(int wheel) throws IndexOutOfBoundsException {
        requireWheel(wheel);
        return digitText(wheel, 0, lengths[wheel]);
    }

    public String product(int wheel) throws IndexOutOfBoundsException {
        requireWheel(wheel);
        workOutProduct(wheel);
        return work.written();
    }

    public String partSum(int wheel, int parts) throws IndexOutOfBoundsException, IllegalArgumentException {
        requireWheel(wheel);
        requireBetween(parts, LEAST_PARTS, MOST_PARTS);
        if (!hasParts(wheel, parts)) {
            return "-9";
        }
        workOutPartSum(wheel, partLength(wheel, parts));
        return work.written();
    }

    public int nines(int wheel, int parts) throws IndexOutOfBoundsException, IllegalArgumentException {
        requireWheel(wheel);
        requireBetween(parts, LEAST_PARTS, MOST_PARTS);
        return ninesOf(wheel, parts);
    }

    public int placeOf(int wheel, int other) throws IndexOutOfBoundsException {
        requireWheel(wheel);
        requireWheel(other);
        int rest = tops[wheel];
        for (int place = 0; place < lengths[wheel]; place++) {
            // Equal digits without end are equal fractions: no fraction here is written with nines for ever.
            if (rest * bottoms[other] == tops[other] * bottoms[wheel]) {
                return place;
            }
            rest = restAfter(rest, bottoms[wheel]);
        }
        return -1;
    }

    public int wheelOrder(int wheel, int other) throws IndexOutOfBoundsException {
        requireWheel(wheel);
        requireWheel(other);
        return orderOfWheels(wheel, other);
    }

    public int against(int wheel, int cell) throws IndexOutOfBoundsException {
        requireWheel(wheel);
        requireCell(cell);
        return orderAgainst(wheel, cell);
    }

    // ---- the whole

    public int house(int what) throws IllegalArgumentException {
        requireBetween(what, 0, TALLIES - 1);
        return tallies[what];
    }

    public int knock() {
        tallies[KNOCKS]++;
        return tallies[KNOCKS];
    }

    public boolean isSound() {
        for (int cell = 0; cell < CELLS; cell++) {
            if (!fits(counts[cell], points[cell]) || !isCellSoundWithAll(cell)) {
                return false;
            }
        }
        for (int wheel = 0; wheel < WHEELS; wheel++) {
            if (!isLengthSound(wheel) || !isProductSound(wheel) || !isCutSound(wheel)) {
                return false;
            }
        }
        return true;
    }

    public long digest() {
        long sum = digestOfCells(DIGEST_START);
        sum = digestOfWheels(sum);
        for (int what = 0; what < TALLIES; what++) {
            sum = joined(sum, tallies[what]);
        }
        return joined(sum, isSound() ? 1 : 0);
    }

    // ---- refusals

    private static void requireCell(int cell) {
        if (cell < 0 || cell >= CELLS) {
            throw new IndexOutOfBoundsException("no such cell");
        }
    }

    private static void requireWheel(int wheel) {
        if (wheel < 0 || wheel >= WHEELS) {
            throw new IndexOutOfBoundsException("no such wheel");
        }
    }

    private static void requireBetween(int value, long least, long most) {
        if (value < least || value > most) {
            throw new IllegalArgumentException("an argument is out of its bounds");
        }
    }

    private static void requireWay(int way) {
        requireBetween(way, WAY_FARTHER, WAY_NONE);
    }

    private static void requireBottom(int bottom) {
        requireBetween(bottom, 1, MOST_BOTTOM);
        if (bottom % 2 == 0 || bottom % 5 == 0) {
            throw new IllegalArgumentException("a bottom is divided by 2 or by 5");
        }
    }

    // ---- decimals

    private static boolean fits(long count, int places) {
        return count >= -MOST_COUNT && count <= MOST_COUNT && places >= 0 && places <= MOST_PLACES;
    }

    /** Ends each act on decimals: all that changes a cell, or tells that it can't, goes through here. */
    private int bring(int into, long count, int places) {
        if (!fits(count, places)) {
            return decline();
        }
        tallies[DECIMAL_ACTS]++;
        if (counts[into] == count && points[into] == places) {
            return 0;
        }
        counts[into] = (int) count;
        points[into] = places;
        return 1;
    }

    /** Places below 0 stand for units of tens, hundreds and so on; these are said with 0 places. */
    private int bringAt(int into, long count, int places) {
        return places < 0 ? bring(into, count * tenTo(-places), 0) : bring(into, count, places);
    }

    private int decline() {
        tallies[DECLINES]++;
        return DECLINED;
    }

    /** The count that the cell's value has with these places, which are not fewer than its own. */
    private long countAt(int cell, int places) {
        return counts[cell] * tenTo(places - points[cell]);
    }

    private int orderOfCells(int cell, int other) {
        return signOf(countAt(cell, MOST_PLACES) - countAt(other, MOST_PLACES));
    }

    private boolean areSame(int cell, int other) {
        return counts[cell] == counts[other] && points[cell] == points[other];
    }

    private static int signOf(long value) {
        if (value == 0) {
            return 0;
        }
        return value < 0 ? -1 : 1;
    }

    /** 10^places; no caller asks for more than 16, and 18 is what a long holds. */
    private static long tenTo(int places) {
        long result = 1;
        for (int place = 0; place < places && place < 18; place++) {
            result *= 10;
        }
        return result;
    }

    private static int digitsIn(long count) {
        int digits = 1;
        for (long left = Math.abs(count) / 10; left > 0 && digits < 19; left /= 10) {
            digits++;
        }
        return digits;
    }

    private static String decimalText(long count, int places) {
        StringBuilder text = new StringBuilder();
        int signs = Math.max(digitsIn(count), places + 1);
        long left = Math.abs(count);
        for (int behind = 0; behind < signs; behind++) {
            if (behind == places && places > 0) {
                text.append('.');
            }
            text.append(signOfDigit((int) (left % 10)));
            left /= 10;
        }
        if (count < 0) {
            text.append('-');
        }
        return text.reverse().toString();
    }

    private static char signOfDigit(int digit) {
        return (char) ('0' + digit);
    }

    // ---- rounding

    /** The count of value / by in units, by a way; by is above 0. */
    private static long rounded(long value, long by, int way) {
        if (by < 1) {
            return REFUSED;
        }
        long nearer = value / by;
        long beyond = Math.abs(value % by);
        if (beyond == 0) {
            return nearer;
        }
        if (way == WAY_NONE) {
            return REFUSED;
        }
        return isFartherTaken(value, nearer, signOf(2 * beyond - by), way) ? nearer + signOf(value) : nearer;
    }

    /** Whether of the neighbours the one that is farther from 0 is due; half: how what is beyond compares to a half. */
    private static boolean isFartherTaken(long value, long nearer, int half, int way) {
        switch (way) {
            case WAY_FARTHER:
                return true;
            case WAY_NEARER:
                return false;
            case WAY_GREATER:
                return value > 0;
            case WAY_LESSER:
                return value < 0;
            case WAY_HALF_FARTHER:
                return half >= 0;
            case WAY_HALF_NEARER:
                return half > 0;
            default:
                return half > 0 || half == 0 && nearer % 2 != 0;
        }
    }

    private long cutCount(int wheel, boolean isMinus, int places, int way) {
        long value = tops[wheel] * tenTo(places);
        return rounded(isMinus ? -value : value, bottoms[wheel], way);
    }

    // ---- wheels

    /** What is left when by divides the value. No sound wheel has by 0; the test keeps the machine from throwing. */
    private static int leftover(int value, int by) {
        return by < 1 ? 0 : value % by;
    }

    private static int restAfter(int rest, int bottom) {
        return leftover(10 * rest, bottom);
    }

    private static int digitAfter(int rest, int bottom) {
        return bottom < 1 ? 0 : 10 * rest / bottom;
    }

    private static int lengthOf(int top, int bottom) {
        int rest = restAfter(top, bottom);
        int length = 1;
        while (rest != top && length < LONGEST_WHEEL) {
            rest = restAfter(rest, bottom);
            length++;
        }
        return length;
    }

    private int restOfPlace(int wheel, int place) {
        int rest = tops[wheel];
        for (int passed = 0; passed < place; passed++) {
            rest = restAfter(rest, bottoms[wheel]);
        }
        return rest;
    }

    /** The length is kept, for it is asked for by nearly all that is asked of a wheel. */
    private void bringWheel(int wheel, int top, int bottom) {
        tops[wheel] = top;
        bottoms[wheel] = bottom;
        turned[wheel] = 0;
        lengths[wheel] = lengthOf(top, bottom);
        tallies[WHEEL_ACTS]++;
    }

    private void turnBy(int wheel, int many) {
        turned[wheel] = leftover(turned[wheel] + many, lengths[wheel]);
        tallies[WHEEL_ACTS]++;
    }

    private int spokeOf(int wheel, int what) {
        switch (what) {
            case 0:
                return tops[wheel];
            case 1:
                return bottoms[wheel];
            case 2:
                return turned[wheel];
            case 3:
                return restOfPlace(wheel, turned[wheel]);
            default:
                return lengths[wheel];
        }
    }

    private String digitText(int wheel, int place, int many) {
        StringBuilder text = new StringBuilder();
        int rest = restOfPlace(wheel, place);
        for (int told = 0; told < many; told++) {
            text.append(signOfDigit(digitAfter(rest, bottoms[wheel])));
            rest = restAfter(rest, bottoms[wheel]);
        }
        return text.toString();
    }

    private int orderOfWheels(int wheel, int other) {
        return signOf(tops[wheel] * bottoms[other] - tops[other] * bottoms[wheel]);
    }

    private int orderAgainst(int wheel, int cell) {
        return signOf(tops[wheel] * tenTo(points[cell]) - (long) counts[cell] * bottoms[wheel]);
    }

    private void workOutProduct(int wheel) {
        int bottom = bottoms[wheel];
        int rest = tops[wheel];
        work.clear();
        for (int behind = lengths[wheel] - 1; behind >= 0; behind--) {
            work.raise(behind, digitAfter(rest, bottom) * bottom);
            rest = restAfter(rest, bottom);
        }
        work.carry();
    }

    // ---- parts

    private boolean hasParts(int wheel, int parts) {
        return leftover(lengths[wheel], parts) == 0;
    }

    private int partLength(int wheel, int parts) {
        return parts < 1 ? 0 : lengths[wheel] / parts;
    }

    private void workOutPartSum(int wheel, int digitsEach) {
        int rest = tops[wheel];
        work.clear();
        for (int behind = lengths[wheel] - 1; behind >= 0; behind--) {
            work.raise(leftover(behind, digitsEach), digitAfter(rest, bottoms[wheel]));
            rest = restAfter(rest, bottoms[wheel]);
        }
        work.carry();
    }

    private int ninesOf(int wheel, int parts) {
        if (!hasParts(wheel, parts)) {
            return DECLINED;
        }
        int digitsEach = partLength(wheel, parts);
        workOutPartSum(wheel, digitsEach);
        // No part is more than nines alone, so the sum is at most parts times them.
        for (int factor = 0; factor <= parts; factor++) {
            measure.becomeNines(digitsEach, factor);
            if (work.isLike(measure)) {
                return factor;
            }
        }
        return -1;
    }

    // ---- soundness

    private boolean isCellSoundWithAll(int cell) {
        for (int other = 0; other < CELLS; other++) {
            int places = Math.max(points[cell], points[other]);
            long sum = countAt(cell, places) + countAt(other, places);
            int order = orderOfCells(cell, other);
            if (sum - countAt(other, places) != countAt(cell, places)
                    || order != -orderOfCells(other, cell)
                    || areSame(cell, other) && order != 0) {
                return false;
            }
        }
        return true;
    }

    private boolean isLengthSound(int wheel) {
        int length = lengths[wheel];
        int rest = tops[wheel];
        boolean isBack = false;
        for (int passed = 1; passed <= length; passed++) {
            rest = restAfter(rest, bottoms[wheel]);
            isBack = rest == tops[wheel];
            if (isBack && passed < length && leftover(length, passed) == 0) {
                return false;
            }
        }
        return isBack;
    }

    private boolean isProductSound(int wheel) {
        workOutProduct(wheel);
        measure.becomeNines(lengths[wheel], tops[wheel]);
        return work.isLike(measure);
    }

    private boolean isCutSound(int wheel) {
        long farther = cutCount(wheel, false, SOUND_PLACES, WAY_FARTHER);
        long nearer = cutCount(wheel, false, SOUND_PLACES, WAY_NEARER);
        long near = cutCount(wheel, false, SOUND_PLACES, WAY_HALF_FARTHER);
        return farther - nearer == (tops[wheel] == 0 ? 0 : 1)
                && near == cutCount(wheel, false, SOUND_PLACES, WAY_HALF_NEARER)
                && near == cutCount(wheel, false, SOUND_PLACES, WAY_HALF_EVEN);
    }

    // ---- digest

    private static long joined(long sum, long value) {
        return sum * 31 + value;
    }

    private long digestOfCells(long start) {
        long sum = start;
        for (int cell = 0; cell < CELLS; cell++) {
            sum = joined(sum, counts[cell]);
            sum = joined(sum, points[cell]);
            sum = joined(sum, digitsIn(counts[cell]));
            sum = joined(sum, signOf(counts[cell]));
        }
        for (int cell = 0; cell < CELLS; cell++) {
            for (int other = cell + 1; other < CELLS; other++) {
                sum = joined(sum, orderOfCells(cell, other));
                sum = joined(sum, areSame(cell, other) ? 1 : 0);
            }
        }
        return sum;
    }

    private long digestOfWheels(long start) {
        long sum = start;
        for (int wheel = 0; wheel < WHEELS; wheel++) {
            sum = digestOfWheel(wheel, sum);
        }
        for (int wheel = 0; wheel < WHEELS; wheel++) {
            for (int other = wheel + 1; other < WHEELS; other++) {
                sum = joined(sum, orderOfWheels(wheel, other));
            }
        }
        return sum;
    }

    private long digestOfWheel(int wheel, long start) {
        long sum = start;
        for (int what = 0; what <= 4; what++) {
            sum = joined(sum, spokeOf(wheel, what));
        }
        sum = joined(sum, ninesOf(wheel, 2));
        sum = joined(sum, ninesOf(wheel, 3));
        for (int cell = 0; cell < CELLS; cell++) {
            sum = joined(sum, orderAgainst(wheel, cell));
        }
        return sum;
    }

    /** A whole number, not below 0, too long for a long: its row is made once and used again by each call. */
    private static final class LongNumber {
        // 96 digits of the longest wheel, and two more of what they are multiplied by.
        private static final int LONGEST = 98;

        // The lowest digit is the first.
        private final int[] row = new int[LONGEST];

        private void clear() {
            for (int behind = 0; behind < LONGEST; behind++) {
                row[behind] = 0;
            }
        }

        /** Adds value * 10^behind, and leaves what goes over 9 to carry(). */
        private void raise(int behind, int value) {
            if (behind >= 0 && behind < LONGEST) {
                row[behind] += value;
            }
        }

        private void carry() {
            int over = 0;
            for (int behind = 0; behind < LONGEST; behind++) {
                int all = row[behind] + over;
                row[behind] = all % 10;
                over = all / 10;
            }
        }

        /** Becomes factor * (10^length - 1). */
        private void becomeNines(int length, int factor) {
            clear();
            for (int behind = 0; behind < length; behind++) {
                raise(behind, 9 * factor);
            }
            carry();
        }

        private boolean isLike(LongNumber other) {
            for (int behind = 0; behind < LONGEST; behind++) {
                if (row[behind] != other.row[behind]) {
                    return false;
                }
            }
            return true;
        }

        private String written() {
            int highest = LONGEST - 1;
            while (highest > 0 && row[highest] == 0) {
                highest--;
            }
            StringBuilder text = new StringBuilder();
            for (int behind = highest; behind >= 0; behind--) {
                text.append(signOfDigit(row[behind]));
            }
            return text.toString();
        }
    }
}
