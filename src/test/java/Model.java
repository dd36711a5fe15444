import java.math.BigDecimal;
import java.math.BigInteger;
import java.math.MathContext;
import java.math.RoundingMode;

/**
 * The document told a second time, by other means: decimals are BigDecimals, the digits of a wheel are those of the
 * exact quotient of BigIntegers. It is slow and plain on purpose; ModelTest holds Ninewheel against it.
 */
final class Model {
    private static final int MOST = 999999;
    private static final RoundingMode[] WAYS = {RoundingMode.UP, RoundingMode.DOWN, RoundingMode.CEILING,
        RoundingMode.FLOOR, RoundingMode.HALF_UP, RoundingMode.HALF_DOWN, RoundingMode.HALF_EVEN,
        RoundingMode.UNNECESSARY};

    private final BigDecimal[] cells = {BigDecimal.ZERO, BigDecimal.ZERO, BigDecimal.ZERO, BigDecimal.ZERO};
    private final BigInteger[] tops = {BigInteger.ZERO, BigInteger.ZERO, BigInteger.ZERO};
    private final BigInteger[] bottoms = {BigInteger.ONE, BigInteger.ONE, BigInteger.ONE};
    private final int[] places = new int[3];
    private final int[] house = new int[4];

    private static void cell(int... all) {
        for (int one : all) {
            if (one < 0 || one > 3) {
                throw new IndexOutOfBoundsException();
            }
        }
    }

    private static void wheel(int... all) {
        for (int one : all) {
            if (one < 0 || one > 2) {
                throw new IndexOutOfBoundsException();
            }
        }
    }

    private static void illegalIf(boolean isWrong) {
        if (isWrong) {
            throw new IllegalArgumentException();
        }
    }

    private static boolean isBottom(int bottom) {
        return bottom >= 1 && bottom <= 99 && bottom % 2 != 0 && bottom % 5 != 0;
    }

    // ---- acts on decimals

    private int none() {
        house[2]++;
        return -9;
    }

    private static boolean fits(BigDecimal value) {
        return value.unscaledValue().abs().compareTo(BigInteger.valueOf(MOST)) <= 0
            && value.scale() >= 0 && value.scale() <= 3;
    }

    private int to(int into, BigDecimal value) {
        if (value == null || !fits(value)) {
            return none();
        }
        house[0]++;
        boolean isSame = cells[into].equals(value);
        cells[into] = value;
        return isSame ? 0 : 1;
    }

    int put(int cell, int count, int places) {
        cell(cell);
        illegalIf(count < -MOST || count > MOST || places < 0 || places > 3);
        return to(cell, BigDecimal.valueOf(count, places));
    }

    int write(int cell, boolean isMinus, int whole, int many, int tail) {
        cell(cell);
        illegalIf(whole < 0 || whole > MOST || many < 0 || many > 3 || tail < 0);
        illegalIf(String.valueOf(tail).length() > many && !(many == 0 && tail == 0));
        StringBuilder text = new StringBuilder(isMinus ? "-" : "").append(whole);
        if (many != 0) {
            text.append('.').append("0".repeat(many - String.valueOf(tail).length())).append(tail);
        }
        return to(cell, new BigDecimal(text.toString()));
    }

    int copy(int cell, int into) {
        cell(cell, into);
        return to(into, cells[cell]);
    }

    int negate(int cell) {
        cell(cell);
        return to(cell, cells[cell].negate());
    }

    int size(int cell) {
        cell(cell);
        return to(cell, cells[cell].abs());
    }

    int add(int cell, int other, int into) {
        cell(cell, other, into);
        return to(into, cells[cell].add(cells[other]));
    }

    int subtract(int cell, int other, int into) {
        cell(cell, other, into);
        return to(into, cells[cell].subtract(cells[other]));
    }

    int multiply(int cell, int other, int into) {
        cell(cell, other, into);
        return to(into, cells[cell].multiply(cells[other]));
    }

    int power(int cell, int raise, int into) {
        cell(cell, into);
        illegalIf(raise < 0 || raise > 3);
        return to(into, cells[cell].pow(raise));
    }

    int divide(int cell, int other, int places, int way, int into) {
        cell(cell, other, into);
        illegalIf(places < 0 || places > 3 || way < 0 || way > 7);
        if (cells[other].signum() == 0) {
            return none();
        }
        try {
            return to(into, cells[cell].divide(cells[other], places, WAYS[way]));
        } catch (ArithmeticException refused) {
            return none();
        }
    }

    int share(int cell, int by, int into) {
        cell(cell, into);
        illegalIf(by < -99 || by > 99);
        if (by == 0) {
            return none();
        }
        for (int tried = cells[cell].scale(); tried <= 3; tried++) {
            BigDecimal result = cells[cell].divide(BigDecimal.valueOf(by), tried, RoundingMode.DOWN);
            if (result.multiply(BigDecimal.valueOf(by)).compareTo(cells[cell]) == 0) {
                return to(into, result);
            }
        }
        return none();
    }

    int whole(int cell, int by, int into) {
        cell(cell, into);
        illegalIf(by < -99 || by > 99);
        return by == 0 ? none() : to(into, cells[cell].divide(BigDecimal.valueOf(by), 0, RoundingMode.DOWN));
    }

    int rest(int cell, int by, int into) {
        cell(cell, into);
        illegalIf(by < -99 || by > 99);
        if (by == 0) {
            return none();
        }
        BigDecimal divisor = BigDecimal.valueOf(by);
        return to(into, cells[cell].subtract(cells[cell].divide(divisor, 0, RoundingMode.DOWN).multiply(divisor)));
    }

    int setPlaces(int cell, int places, int way) {
        cell(cell);
        illegalIf(places < 0 || places > 3 || way < 0 || way > 7);
        try {
            return to(cell, cells[cell].setScale(places, WAYS[way]));
        } catch (ArithmeticException refused) {
            return none();
        }
    }

    int strip(int cell) {
        cell(cell);
        BigDecimal least = cells[cell].stripTrailingZeros();
        return to(cell, least.scale() < 0 ? least.setScale(0) : least);
    }

    int move(int cell, int left) {
        cell(cell);
        illegalIf(left < -3 || left > 3);
        return to(cell, cells[cell].movePointLeft(left));
    }

    int round(int cell, int digits, int way) {
        cell(cell);
        illegalIf(digits < 1 || digits > 6 || way < 0 || way > 7);
        try {
            BigDecimal result = cells[cell].round(new MathContext(digits, WAYS[way]));
            return to(cell, result.scale() < 0 ? result.setScale(0) : result);
        } catch (ArithmeticException refused) {
            return none();
        }
    }

    int greater(int cell, int other, int into) {
        cell(cell, other, into);
        return to(into, cells[cell].max(cells[other]));
    }

    int lesser(int cell, int other, int into) {
        cell(cell, other, into);
        return to(into, cells[cell].min(cells[other]));
    }

    private BigDecimal cutValue(int wheel, boolean isMinus, int places, int way) {
        BigDecimal top = new BigDecimal(isMinus ? tops[wheel].negate() : tops[wheel]);
        try {
            return top.divide(new BigDecimal(bottoms[wheel]), places, WAYS[way]);
        } catch (ArithmeticException refused) {
            return null;
        }
    }

    int cut(int wheel, boolean isMinus, int places, int way, int into) {
        wheel(wheel);
        cell(into);
        illegalIf(places < 0 || places > 3 || way < 0 || way > 7);
        return to(into, cutValue(wheel, isMinus, places, way));
    }

    // ---- what is asked of decimals

    int count(int cell) {
        cell(cell);
        return cells[cell].unscaledValue().intValueExact();
    }

    int places(int cell) {
        cell(cell);
        return cells[cell].scale();
    }

    int digits(int cell) {
        cell(cell);
        return cells[cell].precision();
    }

    int sign(int cell) {
        cell(cell);
        return cells[cell].signum();
    }

    String text(int cell, int how) {
        cell(cell);
        illegalIf(how < 0 || how > 1);
        return cells[cell].toPlainString();
    }

    int order(int cell, int other) {
        cell(cell, other);
        return cells[cell].compareTo(cells[other]);
    }

    boolean same(int cell, int other) {
        cell(cell, other);
        return cells[cell].equals(cells[other]);
    }

    // ---- wheels

    /** 10^length - 1 times TOP / BOTTOM is a whole number exactly behind a full turn. */
    private int length(int wheel) {
        int length = 1;
        while (!allNines(length).multiply(tops[wheel]).mod(bottoms[wheel]).equals(BigInteger.ZERO)) {
            length++;
        }
        return length;
    }

    private static BigInteger allNines(int length) {
        return BigInteger.TEN.pow(length).subtract(BigInteger.ONE);
    }

    private int restOf(int wheel, int place) {
        return BigInteger.TEN.pow(place).multiply(tops[wheel]).mod(bottoms[wheel]).intValueExact();
    }

    /** The digits ahead of a place, as the whole part of TOP * 10^place / BOTTOM writes them. */
    private String ahead(int wheel, int place) {
        if (place == 0) {
            return "";
        }
        String text = BigInteger.TEN.pow(place).multiply(tops[wheel]).divide(bottoms[wheel]).toString();
        return "0".repeat(place - text.length()) + text;
    }

    int setWheel(int wheel, int top, int bottom) {
        wheel(wheel);
        illegalIf(!isBottom(bottom) || top < 0 || top >= bottom);
        tops[wheel] = BigInteger.valueOf(top);
        bottoms[wheel] = BigInteger.valueOf(bottom);
        places[wheel] = 0;
        house[1]++;
        return length(wheel);
    }

    int step(int wheel) {
        wheel(wheel);
        int digit = ahead(wheel, places[wheel] + 1).charAt(places[wheel]) - '0';
        places[wheel] = places[wheel] + 1 == length(wheel) ? 0 : places[wheel] + 1;
        house[1]++;
        return digit;
    }

    int turn(int wheel, int many) {
        wheel(wheel);
        illegalIf(many < 0 || many > 200);
        int length = length(wheel);
        for (int step = 0; step < many; step++) {
            places[wheel] = places[wheel] + 1 == length ? 0 : places[wheel] + 1;
        }
        house[1]++;
        return restOf(wheel, places[wheel]);
    }

    int times(int wheel, int by, int into) {
        wheel(wheel, into);
        illegalIf(by < 0 || by > 99);
        BigInteger top = tops[wheel].multiply(BigInteger.valueOf(by)).mod(bottoms[wheel]);
        bottoms[into] = bottoms[wheel];
        tops[into] = top;
        places[into] = 0;
        house[1]++;
        return top.intValueExact();
    }

    int spoke(int wheel, int what) {
        wheel(wheel);
        illegalIf(what < 0 || what > 4);
        int[] all = {tops[wheel].intValueExact(), bottoms[wheel].intValueExact(), places[wheel],
            restOf(wheel, places[wheel]), length(wheel)};
        return all[what];
    }

    int lowest(int wheel) {
        wheel(wheel);
        return bottoms[wheel].divide(bottoms[wheel].gcd(tops[wheel])).intValueExact();
    }

    int tens(int by) {
        illegalIf(!isBottom(by));
        int order = 1;
        while (!allNines(order).mod(BigInteger.valueOf(by)).equals(BigInteger.ZERO)) {
            order++;
        }
        return order;
    }

    int restAt(int wheel, int place) {
        wheel(wheel);
        illegalIf(place < 0 || place > 200);
        return restOf(wheel, place);
    }

    String digitsFrom(int wheel, int place, int many) {
        wheel(wheel);
        illegalIf(place < 0 || place > 200 || many < 1 || many > 16);
        return ahead(wheel, place + many).substring(place);
    }

    String cutText(int wheel, boolean isMinus, int places, int way) {
        wheel(wheel);
        illegalIf(places < 0 || places > 16 || way < 0 || way > 7);
        BigDecimal value = cutValue(wheel, isMinus, places, way);
        return value == null ? "-9" : value.toPlainString();
    }

    String number(int wheel) {
        wheel(wheel);
        return ahead(wheel, length(wheel));
    }

    String product(int wheel) {
        wheel(wheel);
        return new BigInteger(number(wheel)).multiply(bottoms[wheel]).toString();
    }

    private BigInteger sumOfParts(int wheel, int parts) {
        String all = number(wheel);
        if (all.length() % parts != 0) {
            return null;
        }
        int each = all.length() / parts;
        BigInteger sum = BigInteger.ZERO;
        for (int part = 0; part < parts; part++) {
            sum = sum.add(new BigInteger(all.substring(part * each, part * each + each)));
        }
        return sum;
    }

    String partSum(int wheel, int parts) {
        wheel(wheel);
        illegalIf(parts < 2 || parts > 12);
        BigInteger sum = sumOfParts(wheel, parts);
        return sum == null ? "-9" : sum.toString();
    }

    int nines(int wheel, int parts) {
        wheel(wheel);
        illegalIf(parts < 2 || parts > 12);
        BigInteger sum = sumOfParts(wheel, parts);
        if (sum == null) {
            return -9;
        }
        BigInteger[] by = sum.divideAndRemainder(allNines(length(wheel) / parts));
        return by[1].signum() == 0 ? by[0].intValueExact() : -1;
    }

    int placeOf(int wheel, int other) {
        wheel(wheel, other);
        // Two wheels of at most 96 places that are alike for 96 + 96 places are alike without end.
        String all = ahead(wheel, 500);
        String sought = ahead(other, 300);
        for (int place = 0; place < length(wheel); place++) {
            if (all.startsWith(sought, place)) {
                return place;
            }
        }
        return -1;
    }

    int wheelOrder(int wheel, int other) {
        wheel(wheel, other);
        return tops[wheel].multiply(bottoms[other]).compareTo(tops[other].multiply(bottoms[wheel]));
    }

    int against(int wheel, int cell) {
        wheel(wheel);
        cell(cell);
        return new BigDecimal(tops[wheel]).compareTo(cells[cell].multiply(new BigDecimal(bottoms[wheel])));
    }

    // ---- the whole

    int house(int what) {
        illegalIf(what < 0 || what > 3);
        return house[what];
    }

    int knock() {
        return ++house[3];
    }

    boolean isSound() {
        return true;
    }

    long digest() {
        long sum = 7944;
        for (int cell = 0; cell < 4; cell++) {
            for (int one : new int[] {count(cell), places(cell), digits(cell), sign(cell)}) {
                sum = sum * 31 + one;
            }
        }
        for (int first = 0; first < 4; first++) {
            for (int second = first + 1; second < 4; second++) {
                sum = sum * 31 + order(first, second);
                sum = sum * 31 + (same(first, second) ? 1 : 0);
            }
        }
        for (int wheel = 0; wheel < 3; wheel++) {
            for (int one : new int[] {spoke(wheel, 0), spoke(wheel, 1), spoke(wheel, 2), spoke(wheel, 3),
                spoke(wheel, 4), nines(wheel, 2), nines(wheel, 3), against(wheel, 0), against(wheel, 1),
                against(wheel, 2), against(wheel, 3)}) {
                sum = sum * 31 + one;
            }
        }
        for (int first = 0; first < 3; first++) {
            for (int second = first + 1; second < 3; second++) {
                sum = sum * 31 + wheelOrder(first, second);
            }
        }
        for (int what = 0; what < 4; what++) {
            sum = sum * 31 + house[what];
        }
        return sum * 31 + 1;
    }
}
