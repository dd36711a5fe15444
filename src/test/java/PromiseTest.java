/** For each promise the answers that the document's words ask for: ordinary inputs, edges, wrong inputs. */
public final class PromiseTest extends Check {
    private PromiseTest() {
    }

    private static void promise(int number) {
        about(number, "ordinary inputs, edges, wrong inputs");
    }

    private static String told(Ninewheel x) {
        return String.join(" | ", state(x));
    }

    private static Ninewheel with(int count0, int places0, int count1, int places1) {
        Ninewheel x = new Ninewheel();
        x.put(0, count0, places0);
        x.put(1, count1, places1);
        return x;
    }

    private static Ninewheel with(int count, int places) {
        return with(count, places, 0, 0);
    }

    private static Ninewheel wheel(int top, int bottom) {
        Ninewheel x = new Ninewheel();
        x.setWheel(0, top, bottom);
        return x;
    }

    private static void p1New() {
        is(told(new Ninewheel()), "0 | 0 | 0 | 0 | 0 1 0 0 1 | 0 1 0 0 1 | 0 1 0 0 1 | 0 | 0 | 0 | 0");
        for (int what = 0; what < 4; what++) {
            is(new Ninewheel().house(what), 0);
        }
    }

    private static void p2Put() {
        Ninewheel x = new Ninewheel();
        is(x.put(0, 0, 0), 0);
        is(x.put(0, 0, 1), 1);
        is(x.put(3, 999999, 3), 1);
        is(x.text(3, 0), "999.999");
        is(x.put(3, -999999, 0), 1);
        is(x.put(3, -999999, 0), 0);
        fails(BOUNDS, x, y -> y.put(4, 1000000, 4));
        fails(BOUNDS, x, y -> y.put(-1, 0, 0));
        fails(ILLEGAL, x, y -> y.put(0, 1000000, 0));
        fails(ILLEGAL, x, y -> y.put(0, -1000000, 0));
        fails(ILLEGAL, x, y -> y.put(0, 0, 4));
        fails(ILLEGAL, x, y -> y.put(0, 0, -1));
    }

    private static void p3Write() {
        Ninewheel x = new Ninewheel();
        is(x.write(0, true, 12, 3, 7), 1);
        is(x.text(0, 0), "-12.007");
        is(x.write(0, true, 0, 0, 0), 1);
        is(x.sign(0), 0);
        is(x.write(0, false, 0, 0, 0), 0);
        is(x.write(0, true, 0, 2, 0), 1);
        is(x.text(0, 0), "0.00");
        is(x.write(1, false, 999, 3, 999), 1);
        is(x.count(1), 999999);
        is(x.write(1, true, 999999, 0, 0), 1);
        declines(x, y -> y.write(1, false, 1000, 3, 0));
        declines(x, y -> y.write(1, true, 999999, 3, 999));
        fails(BOUNDS, x, y -> y.write(4, false, -1, 4, -1));
        fails(ILLEGAL, x, y -> y.write(0, false, -1, 0, 0));
        fails(ILLEGAL, x, y -> y.write(0, false, 1000000, 0, 0));
        fails(ILLEGAL, new Ninewheel(), y -> y.write(0, false, 1, -1, 0));
        fails(ILLEGAL, new Ninewheel(), y -> y.write(0, false, 1, 4, 0));
        fails(ILLEGAL, new Ninewheel(), y -> y.write(0, false, 1, Integer.MAX_VALUE, 0));
        fails(ILLEGAL, new Ninewheel(), y -> y.write(0, false, 1, 0, 1));
        fails(ILLEGAL, new Ninewheel(), y -> y.write(0, false, 1, 2, 100));
        fails(ILLEGAL, new Ninewheel(), y -> y.write(0, false, 1, 2, -1));
        // The arguments are wrong and it would not fit: the exception goes ahead.
        fails(ILLEGAL, new Ninewheel(), y -> y.write(0, false, 999999, 3, 1000));
    }

    private static void p4Copy() {
        Ninewheel x = with(-50, 2);
        is(x.copy(0, 3), 1);
        is(x.copy(0, 3), 0);
        is(x.copy(0, 0), 0);
        is(x.text(3, 0), "-0.50");
        is(x.text(0, 0), "-0.50");
        fails(BOUNDS, x, y -> y.copy(4, 0));
        fails(BOUNDS, x, y -> y.copy(0, 4));
        fails(BOUNDS, x, y -> y.copy(-1, 0));
        fails(BOUNDS, x, y -> y.copy(0, -1));
    }

    private static void p5Negate() {
        Ninewheel x = with(-999999, 2);
        is(x.negate(0), 1);
        is(x.text(0, 0), "9999.99");
        is(x.negate(1), 0);
        fails(BOUNDS, x, y -> y.negate(4));
        fails(BOUNDS, x, y -> y.negate(-1));
    }

    private static void p6Size() {
        Ninewheel x = with(-7, 3);
        is(x.size(0), 1);
        is(x.text(0, 0), "0.007");
        is(x.size(0), 0);
        fails(BOUNDS, x, y -> y.size(4));
        fails(BOUNDS, x, y -> y.size(-1));
    }

    private static void p7Add() {
        Ninewheel x = with(15, 1, 250, 2);
        is(x.add(0, 1, 2), 1);
        is(x.text(2, 0), "4.00");
        is(x.add(0, 0, 0), 1);
        is(x.text(0, 0), "3.0");
        Ninewheel most = with(999998, 0, 1, 0);
        is(most.add(0, 1, 0), 1);
        declines(most, y -> y.add(0, 1, 0));
        Ninewheel finer = with(1000, 0, 0, 3);
        declines(finer, y -> y.add(0, 1, 2));
        fails(BOUNDS, x, y -> y.add(4, 0, 0));
        fails(BOUNDS, x, y -> y.add(0, -1, 0));
        fails(BOUNDS, x, y -> y.add(0, 0, 4));
    }

    private static void p8Subtract() {
        Ninewheel x = with(15, 1, 250, 2);
        is(x.subtract(0, 1, 2), 1);
        is(x.text(2, 0), "-1.00");
        is(x.subtract(1, 1, 1), 1);
        is(x.text(1, 0), "0.00");
        Ninewheel least = with(-999998, 0, 1, 0);
        is(least.subtract(0, 1, 0), 1);
        declines(least, y -> y.subtract(0, 1, 0));
        fails(BOUNDS, x, y -> y.subtract(-1, 0, 0));
        fails(BOUNDS, x, y -> y.subtract(0, 4, 0));
        fails(BOUNDS, x, y -> y.subtract(0, 0, 4));
    }

    private static void p9Multiply() {
        Ninewheel x = with(-15, 1, 4, 2);
        is(x.multiply(0, 1, 2), 1);
        is(x.text(2, 0), "-0.060");
        is(x.multiply(0, 0, 0), 1);
        is(x.text(0, 0), "2.25");
        declines(x, y -> y.multiply(0, 1, 3));
        Ninewheel nought = with(0, 2, 0, 2);
        declines(nought, y -> y.multiply(0, 1, 3));
        Ninewheel large = with(1000, 0, 999, 0);
        is(large.multiply(0, 1, 2), 1);
        declines(large, y -> y.multiply(0, 0, 2));
        Ninewheel huge = with(999999, 0, -999999, 0);
        declines(huge, y -> y.multiply(0, 1, 2));
        // The product wraps to 0 where one counts in 32 bits.
        Ninewheel wrapped = with(65536, 0, 65536, 0);
        declines(wrapped, y -> y.multiply(0, 1, 2));
        fails(BOUNDS, x, y -> y.multiply(4, 0, 0));
        fails(BOUNDS, x, y -> y.multiply(0, 4, 0));
        fails(BOUNDS, x, y -> y.multiply(0, 0, -1));
    }

    private static void p10Power() {
        Ninewheel x = with(-12, 1);
        is(x.power(0, 3, 2), 1);
        is(x.text(2, 0), "-1.728");
        is(x.power(0, 2, 2), 1);
        is(x.text(2, 0), "1.44");
        is(x.power(0, 1, 2), 1);
        is(x.text(2, 0), "-1.2");
        is(x.power(0, 0, 2), 1);
        is(x.text(2, 0), "1");
        is(x.power(1, 0, 2), 0);
        Ninewheel finer = with(0, 2);
        declines(finer, y -> y.power(0, 2, 2));
        Ninewheel huge = with(-999999, 0);
        declines(huge, y -> y.power(0, 3, 2));
        fails(BOUNDS, x, y -> y.power(4, 4, 0));
        fails(BOUNDS, x, y -> y.power(0, -1, 4));
        fails(ILLEGAL, x, y -> y.power(0, 4, 0));
        fails(ILLEGAL, x, y -> y.power(0, -1, 0));
    }

    private static void p11Divide() {
        Ninewheel x = with(7, 0, -3, 0);
        String[] due = {"-2.34", "-2.33", "-2.33", "-2.34", "-2.33", "-2.33", "-2.33"};
        for (int way = 0; way <= 6; way++) {
            x.divide(0, 1, 2, way, 2);
            is(x.text(2, 0), due[way]);
        }
        declines(x, y -> y.divide(0, 1, 2, 7, 2));
        Ninewheel half = with(1, 3, 2, 3);
        String[] halves = {"1", "0", "1", "0", "1", "0", "0"};
        for (int way = 0; way <= 6; way++) {
            half.divide(0, 1, 0, way, 2);
            is(half.text(2, 0), halves[way]);
        }
        is(half.divide(0, 1, 1, 7, 0), 1);
        is(half.text(0, 0), "0.5");
        Ninewheel nought = with(1, 0, 0, 3);
        declines(nought, y -> y.divide(0, 1, 0, 0, 2));
        Ninewheel huge = with(999999, 0, 1, 3);
        declines(huge, y -> y.divide(0, 1, 0, 0, 2));
        is(huge.divide(1, 0, 3, 0, 2), 1);
        is(huge.text(2, 0), "0.001");
        fails(BOUNDS, x, y -> y.divide(4, 0, 9, 9, 0));
        fails(BOUNDS, x, y -> y.divide(0, 4, 9, 9, 0));
        fails(BOUNDS, x, y -> y.divide(0, 0, 9, 9, 4));
        fails(ILLEGAL, x, y -> y.divide(0, 3, 4, 0, 0));
        fails(ILLEGAL, x, y -> y.divide(0, 3, -1, 0, 0));
        fails(ILLEGAL, x, y -> y.divide(0, 3, 0, 8, 0));
        fails(ILLEGAL, x, y -> y.divide(0, 3, 0, -1, 0));
    }

    private static void p12Share() {
        Ninewheel x = with(100, 2);
        is(x.share(0, 8, 2), 1);
        is(x.text(2, 0), "0.125");
        is(x.share(0, 2, 2), 1);
        is(x.text(2, 0), "0.50");
        is(x.share(0, -99, 3), -9);
        is(x.share(1, -99, 3), 0);
        declines(x, y -> y.share(0, 0, 2));
        declines(x, y -> y.share(0, 16, 2));
        Ninewheel odd = with(999999, 0);
        declines(odd, y -> y.share(0, 2, 2));
        is(odd.share(0, -3, 0), 1);
        is(odd.text(0, 0), "-333333");
        fails(BOUNDS, x, y -> y.share(4, 100, 0));
        fails(BOUNDS, x, y -> y.share(0, 100, 4));
        fails(ILLEGAL, x, y -> y.share(0, 100, 0));
        fails(ILLEGAL, x, y -> y.share(0, -100, 0));
    }

    private static void p13Whole() {
        Ninewheel x = with(-7125, 2);
        is(x.whole(0, 4, 2), 1);
        is(x.text(2, 0), "-17");
        is(x.whole(0, -4, 2), 1);
        is(x.text(2, 0), "17");
        is(x.whole(0, 72, 2), 1);
        is(x.text(2, 0), "0");
        is(x.whole(0, 1, 0), 1);
        is(x.text(0, 0), "-71");
        declines(x, y -> y.whole(0, 0, 2));
        fails(BOUNDS, x, y -> y.whole(-1, 100, 0));
        fails(BOUNDS, x, y -> y.whole(0, 100, -1));
        fails(ILLEGAL, x, y -> y.whole(0, 100, 0));
        fails(ILLEGAL, x, y -> y.whole(0, -100, 0));
    }

    private static void p14Rest() {
        Ninewheel x = with(-7125, 2);
        is(x.rest(0, 4, 2), 1);
        is(x.text(2, 0), "-3.25");
        is(x.rest(0, -4, 2), 0);
        is(x.rest(0, 99, 2), 1);
        is(x.text(2, 0), "-71.25");
        is(x.rest(0, 1, 0), 1);
        is(x.text(0, 0), "-0.25");
        declines(x, y -> y.rest(0, 0, 2));
        fails(BOUNDS, x, y -> y.rest(4, 100, 0));
        fails(BOUNDS, x, y -> y.rest(0, 100, 4));
        fails(ILLEGAL, x, y -> y.rest(0, 100, 0));
        fails(ILLEGAL, x, y -> y.rest(0, -100, 0));
    }

    private static void p15SetPlaces() {
        int[] counts = {25, 35, -25, -35, 24, 26, -24, -26, 5, -5};
        int[][] due = {
            {3, 4, -3, -4, 3, 3, -3, -3, 1, -1},
            {2, 3, -2, -3, 2, 2, -2, -2, 0, 0},
            {3, 4, -2, -3, 3, 3, -2, -2, 1, 0},
            {2, 3, -3, -4, 2, 2, -3, -3, 0, -1},
            {3, 4, -3, -4, 2, 3, -2, -3, 1, -1},
            {2, 3, -2, -3, 2, 3, -2, -3, 0, 0},
            {2, 4, -2, -4, 2, 3, -2, -3, 0, 0},
        };
        for (int i = 0; i < counts.length; i++) {
            for (int way = 0; way <= 6; way++) {
                Ninewheel x = with(counts[i], 1);
                is(x.setPlaces(0, 0, way), 1);
                is(x.count(0), due[way][i]);
                is(x.places(0), 0);
            }
            Ninewheel x = with(counts[i], 1);
            declines(x, y -> y.setPlaces(0, 0, 7));
        }
        Ninewheel x = with(-20, 1, 999999, 0);
        is(x.setPlaces(0, 0, 7), 1);
        is(x.setPlaces(0, 0, 7), 0);
        is(x.setPlaces(0, 3, 7), 1);
        is(x.text(0, 0), "-2.000");
        declines(x, y -> y.setPlaces(1, 1, 0));
        fails(BOUNDS, x, y -> y.setPlaces(4, 4, 8));
        fails(ILLEGAL, x, y -> y.setPlaces(0, 4, 0));
        fails(ILLEGAL, x, y -> y.setPlaces(0, -1, 0));
        fails(ILLEGAL, x, y -> y.setPlaces(0, 0, 8));
        fails(ILLEGAL, x, y -> y.setPlaces(0, 0, -1));
    }

    private static void p16Strip() {
        Ninewheel x = with(-1200, 3, 0, 3);
        is(x.strip(0), 1);
        is(x.text(0, 0), "-1.2");
        is(x.strip(0), 0);
        is(x.strip(1), 1);
        is(x.text(1, 0), "0");
        Ninewheel tens = with(1000, 2);
        is(tens.strip(0), 1);
        is(tens.text(0, 0), "10");
        is(tens.strip(0), 0);
        fails(BOUNDS, x, y -> y.strip(4));
        fails(BOUNDS, x, y -> y.strip(-1));
    }

    private static void p17Move() {
        Ninewheel x = with(-1207, 2);
        is(x.move(0, 1), 1);
        is(x.text(0, 0), "-1.207");
        declines(x, y -> y.move(0, 1));
        is(x.move(0, -2), 1);
        is(x.text(0, 0), "-120.7");
        is(x.move(0, -3), 1);
        is(x.text(0, 0), "-120700");
        is(x.move(0, 0), 0);
        declines(x, y -> y.move(0, -1));
        is(x.move(1, -3), 0);
        is(x.move(1, 3), 1);
        is(x.text(1, 0), "0.000");
        fails(BOUNDS, x, y -> y.move(4, 4));
        fails(ILLEGAL, x, y -> y.move(0, 4));
        fails(ILLEGAL, x, y -> y.move(0, -4));
    }

    private static void p18Round() {
        Ninewheel x = with(99950, 3);
        is(x.round(0, 3, 5), 1);
        is(x.text(0, 0), "99.9");
        is(x.round(0, 3, 7), 0);
        is(x.round(0, 6, 7), 0);
        x.put(0, 99950, 3);
        is(x.round(0, 3, 4), 1);
        is(x.text(0, 0), "100");
        x.put(0, -9996, 3);
        is(x.round(0, 3, 6), 1);
        is(x.text(0, 0), "-10.0");
        x.put(0, 123456, 1);
        is(x.round(0, 2, 1), 1);
        is(x.text(0, 0), "12000");
        is(x.round(0, 2, 7), 0);
        x.put(0, 1200, 2);
        is(x.round(0, 2, 7), 1);
        is(x.text(0, 0), "12");
        x.put(0, 1210, 2);
        declines(x, y -> y.round(0, 2, 7));
        x.put(0, -999999, 0);
        declines(x, y -> y.round(0, 5, 0));
        is(x.round(0, 5, 2), 1);
        is(x.text(0, 0), "-999990");
        is(x.round(1, 1, 7), 0);
        x.put(0, 99, 1);
        is(x.round(0, 1, 0), 1);
        is(x.text(0, 0), "10");
        fails(BOUNDS, x, y -> y.round(4, 0, 8));
        fails(ILLEGAL, x, y -> y.round(0, 0, 0));
        fails(ILLEGAL, x, y -> y.round(0, 7, 0));
        fails(ILLEGAL, x, y -> y.round(0, 1, 8));
        fails(ILLEGAL, x, y -> y.round(0, 1, -1));
    }

    private static void p19Greater() {
        Ninewheel x = with(-5, 0, 20, 1);
        is(x.greater(0, 1, 2), 1);
        is(x.text(2, 0), "2.0");
        x.put(3, 2, 0);
        is(x.greater(3, 1, 2), 1);
        is(x.text(2, 0), "2");
        is(x.greater(1, 3, 2), 1);
        is(x.text(2, 0), "2.0");
        is(x.greater(0, 1, 1), 0);
        fails(BOUNDS, x, y -> y.greater(4, 0, 0));
        fails(BOUNDS, x, y -> y.greater(0, 4, 0));
        fails(BOUNDS, x, y -> y.greater(0, 0, 4));
    }

    private static void p20Lesser() {
        Ninewheel x = with(-5, 0, -51, 1);
        is(x.lesser(0, 1, 2), 1);
        is(x.text(2, 0), "-5.1");
        x.put(3, -5000, 3);
        is(x.lesser(3, 0, 2), 1);
        is(x.text(2, 0), "-5.000");
        is(x.lesser(0, 3, 2), 1);
        is(x.text(2, 0), "-5");
        fails(BOUNDS, x, y -> y.lesser(-1, 0, 0));
        fails(BOUNDS, x, y -> y.lesser(0, -1, 0));
        fails(BOUNDS, x, y -> y.lesser(0, 0, -1));
    }

    private static void p21Cut() {
        Ninewheel x = wheel(2, 3);
        String[] up = {"0.67", "0.66", "0.67", "0.66", "0.67", "0.67", "0.67"};
        String[] down = {"-0.67", "-0.66", "-0.66", "-0.67", "-0.67", "-0.67", "-0.67"};
        for (int way = 0; way <= 6; way++) {
            x.cut(0, false, 2, way, 0);
            is(x.text(0, 0), up[way]);
            x.cut(0, true, 2, way, 0);
            is(x.text(0, 0), down[way]);
        }
        declines(x, y -> y.cut(0, false, 2, 7, 0));
        is(x.cut(1, true, 3, 7, 0), 1);
        is(x.text(0, 0), "0.000");
        is(x.cut(0, false, 0, 0, 3), 1);
        is(x.cut(0, false, 0, 4, 3), 0);
        is(x.text(3, 0), "1");
        is(x.house(1), 1);
        is(x.house(0), 17);
        fails(BOUNDS, x, y -> y.cut(3, true, 4, 8, 0));
        fails(BOUNDS, x, y -> y.cut(0, true, 4, 8, 4));
        fails(ILLEGAL, x, y -> y.cut(0, true, 4, 0, 0));
        fails(ILLEGAL, x, y -> y.cut(0, true, -1, 0, 0));
        fails(ILLEGAL, x, y -> y.cut(0, true, 0, 8, 0));
        fails(ILLEGAL, x, y -> y.cut(0, true, 0, -1, 0));
    }

    private static void p22to25Asked() {
        Ninewheel x = with(-100, 2, 999999, 3);
        promise(22);
        is(x.count(0), -100);
        is(x.count(1), 999999);
        fails(BOUNDS, x, y -> y.count(4));
        fails(BOUNDS, x, y -> y.count(-1));
        promise(23);
        is(x.places(0), 2);
        is(x.places(1), 3);
        fails(BOUNDS, x, y -> y.places(4));
        fails(BOUNDS, x, y -> y.places(-1));
        promise(24);
        is(x.digits(0), 3);
        is(x.digits(1), 6);
        is(x.digits(2), 1);
        x.put(2, -99, 3);
        is(x.digits(2), 2);
        fails(BOUNDS, x, y -> y.digits(4));
        fails(BOUNDS, x, y -> y.digits(-1));
        promise(25);
        is(x.sign(0), -1);
        is(x.sign(1), 1);
        is(x.sign(3), 0);
        fails(BOUNDS, x, y -> y.sign(4));
        fails(BOUNDS, x, y -> y.sign(-1));
    }

    private static void p26Text() {
        is(with(-5, 2).text(0, 0), "-0.05");
        is(with(0, 2).text(0, 1), "0.00");
        is(with(-123456, 3).text(0, 0), "-123.456");
        is(with(120, 0).text(0, 0), "120");
        is(with(9, 3).text(0, 1), "0.009");
        is(with(1000, 3).text(0, 1), "1.000");
        fails(BOUNDS, new Ninewheel(), y -> y.text(4, 2));
        fails(BOUNDS, new Ninewheel(), y -> y.text(-1, 2));
        fails(ILLEGAL, new Ninewheel(), y -> y.text(0, 2));
        fails(ILLEGAL, new Ninewheel(), y -> y.text(0, -1));
    }

    private static void p27Order() {
        Ninewheel x = with(-999999, 0, 999999, 0);
        is(x.order(0, 1), -1);
        is(x.order(1, 0), 1);
        is(x.order(1, 1), 0);
        is(with(10, 1, 1, 0).order(0, 1), 0);
        is(with(1001, 3, 1, 0).order(0, 1), 1);
        is(with(999, 3, 1, 0).order(0, 1), -1);
        fails(BOUNDS, x, y -> y.order(4, 0));
        fails(BOUNDS, x, y -> y.order(0, -1));
    }

    private static void p28Same() {
        is(with(10, 1, 1, 0).same(0, 1), false);
        is(with(10, 1, 10, 2).same(0, 1), false);
        is(with(10, 1, -10, 1).same(0, 1), false);
        is(with(10, 1, 10, 1).same(0, 1), true);
        fails(BOUNDS, new Ninewheel(), y -> y.same(4, 0));
        fails(BOUNDS, new Ninewheel(), y -> y.same(0, -1));
    }

    private static void p29SetWheel() {
        Ninewheel x = new Ninewheel();
        is(x.setWheel(0, 1, 7), 6);
        x.step(0);
        is(x.setWheel(0, 1, 7), 6);
        is(x.spoke(0, 2), 0);
        is(x.setWheel(2, 96, 97), 96);
        is(x.setWheel(1, 22, 33), 1);
        is(x.setWheel(1, 0, 99), 1);
        is(x.setWheel(1, 98, 99), 2);
        is(x.setWheel(1, 0, 1), 1);
        fails(BOUNDS, x, y -> y.setWheel(3, -1, 2));
        fails(BOUNDS, x, y -> y.setWheel(-1, 0, 1));
        for (int bottom : new int[] {-3, -1, 0, 2, 5, 10, 15, 98, 95, 100, 101}) {
            fails(ILLEGAL, wheel(1, 7), y -> y.setWheel(0, 0, bottom));
        }
        fails(ILLEGAL, wheel(1, 7), y -> y.setWheel(0, -1, 7));
        fails(ILLEGAL, wheel(1, 7), y -> y.setWheel(0, 7, 7));
        fails(ILLEGAL, wheel(1, 7), y -> y.setWheel(0, 1, 1));
    }

    private static void p30Step() {
        Ninewheel x = wheel(1, 7);
        int[] due = {1, 4, 2, 8, 5, 7, 1, 4};
        for (int i = 0; i < due.length; i++) {
            is(x.spoke(0, 2), i % 6);
            is(x.step(0), due[i]);
        }
        is(x.step(1), 0);
        is(x.spoke(1, 2), 0);
        is(x.house(1), 10);
        fails(BOUNDS, x, y -> y.step(3));
        fails(BOUNDS, x, y -> y.step(-1));
    }

    private static void p31Turn() {
        Ninewheel x = wheel(1, 7);
        is(x.turn(0, 5), 5);
        is(x.turn(0, 1), 1);
        is(x.spoke(0, 2), 0);
        is(x.turn(0, 200), 2);
        is(x.spoke(0, 2), 2);
        is(x.turn(0, 0), 2);
        is(x.house(1), 5);
        fails(BOUNDS, x, y -> y.turn(3, 201));
        fails(ILLEGAL, x, y -> y.turn(0, 201));
        fails(ILLEGAL, x, y -> y.turn(0, -1));
    }

    private static void p32Times() {
        Ninewheel x = wheel(3, 7);
        x.turn(0, 3);
        is(x.times(0, 99, 1), 3);
        is(x.spoke(0, 2), 3);
        is(x.spoke(1, 1), 7);
        is(x.times(0, 3, 0), 2);
        is(x.spoke(0, 2), 0);
        x.setWheel(2, 4, 21);
        is(x.times(2, 7, 2), 7);
        is(x.spoke(2, 4), 1);
        is(x.times(2, 0, 2), 0);
        is(x.spoke(2, 1), 21);
        fails(BOUNDS, x, y -> y.times(3, 100, 0));
        fails(BOUNDS, x, y -> y.times(0, 100, 3));
        fails(ILLEGAL, x, y -> y.times(0, 100, 0));
        fails(ILLEGAL, x, y -> y.times(0, -1, 0));
    }

    private static void p33Spoke() {
        Ninewheel x = wheel(3, 13);
        x.turn(0, 7);
        is(x.spoke(0, 0), 3);
        is(x.spoke(0, 1), 13);
        is(x.spoke(0, 2), 1);
        is(x.spoke(0, 3), 4);
        is(x.spoke(0, 4), 6);
        fails(BOUNDS, x, y -> y.spoke(3, 5));
        fails(ILLEGAL, x, y -> y.spoke(0, 5));
        fails(ILLEGAL, x, y -> y.spoke(0, -1));
    }

    private static void p34Lowest() {
        is(wheel(22, 33).lowest(0), 3);
        is(wheel(0, 99).lowest(0), 1);
        is(wheel(98, 99).lowest(0), 99);
        is(wheel(0, 1).lowest(0), 1);
        fails(BOUNDS, new Ninewheel(), y -> y.lowest(3));
        fails(BOUNDS, new Ninewheel(), y -> y.lowest(-1));
    }

    private static void p35Tens() {
        Ninewheel x = new Ninewheel();
        int[][] due = {{1, 1}, {3, 1}, {7, 6}, {9, 1}, {11, 2}, {13, 6}, {27, 3}, {37, 3}, {41, 5}, {97, 96}, {99, 2}};
        for (int[] pair : due) {
            is(x.tens(pair[0]), pair[1]);
        }
        for (int by : new int[] {-1, 0, 2, 5, 10, 100, 101}) {
            fails(ILLEGAL, x, y -> y.tens(by));
        }
    }

    private static void p36RestAt() {
        Ninewheel x = wheel(1, 97);
        is(x.restAt(0, 0), 1);
        is(x.restAt(0, 1), 10);
        is(x.restAt(0, 2), 3);
        is(x.restAt(0, 96), 1);
        is(x.restAt(0, 200), 81);
        x.turn(0, 5);
        is(x.restAt(0, 0), 1);
        fails(BOUNDS, x, y -> y.restAt(3, 201));
        fails(ILLEGAL, x, y -> y.restAt(0, 201));
        fails(ILLEGAL, x, y -> y.restAt(0, -1));
    }

    private static void p37DigitsFrom() {
        Ninewheel x = wheel(1, 7);
        is(x.digitsFrom(0, 0, 1), "1");
        is(x.digitsFrom(0, 4, 16), "5714285714285714");
        is(x.digitsFrom(0, 200, 3), "285");
        is(x.digitsFrom(1, 200, 4), "0000");
        fails(BOUNDS, x, y -> y.digitsFrom(3, 201, 0));
        fails(ILLEGAL, x, y -> y.digitsFrom(0, 201, 1));
        fails(ILLEGAL, x, y -> y.digitsFrom(0, -1, 1));
        fails(ILLEGAL, x, y -> y.digitsFrom(0, 0, 0));
        fails(ILLEGAL, x, y -> y.digitsFrom(0, 0, 17));
    }

    private static void p38CutText() {
        Ninewheel x = wheel(1, 7);
        is(x.cutText(0, false, 16, 4), "0.1428571428571429");
        is(x.cutText(0, true, 16, 2), "-0.1428571428571428");
        is(x.cutText(0, true, 0, 1), "0");
        is(x.cutText(0, true, 0, 0), "-1");
        is(x.cutText(0, true, 6, 7), "-9");
        is(x.cutText(1, true, 16, 7), "0.0000000000000000");
        x.setWheel(2, 98, 99);
        is(x.cutText(2, false, 16, 1), "0.9898989898989898");
        is(x.cutText(2, false, 1, 0), "1.0");
        x.setWheel(2, 96, 97);
        is(x.cutText(2, true, 1, 4), "-1.0");
        x.setWheel(2, 1, 99);
        is(x.cutText(2, false, 16, 0), "0.0101010101010102");
        is(x.house(2), 0);
        fails(BOUNDS, x, y -> y.cutText(3, true, 17, 8));
        fails(ILLEGAL, x, y -> y.cutText(0, true, 17, 0));
        fails(ILLEGAL, x, y -> y.cutText(0, true, -1, 0));
        fails(ILLEGAL, x, y -> y.cutText(0, true, 0, 8));
        fails(ILLEGAL, x, y -> y.cutText(0, true, 0, -1));
    }

    private static void p39Number() {
        is(wheel(1, 13).number(0), "076923");
        is(wheel(22, 33).number(0), "6");
        is(wheel(0, 7).number(0), "0");
        is(wheel(1, 97).number(0), "010309278350515463917525773195876288659793814432989690721649484536082474"
            + "226804123711340206185567");
        fails(BOUNDS, new Ninewheel(), y -> y.number(3));
        fails(BOUNDS, new Ninewheel(), y -> y.number(-1));
    }

    private static void p40Product() {
        is(wheel(1, 13).product(0), "999999");
        is(wheel(4, 21).product(0), "3999996");
        is(wheel(0, 7).product(0), "0");
        is(wheel(96, 97).product(0), "95" + "9".repeat(94) + "04");
        is(wheel(22, 33).product(0), "198");
        fails(BOUNDS, new Ninewheel(), y -> y.product(3));
        fails(BOUNDS, new Ninewheel(), y -> y.product(-1));
    }

    private static void p41PartSum() {
        Ninewheel x = wheel(4, 21);
        is(x.number(0), "190476");
        is(x.partSum(0, 2), "666");
        is(x.partSum(0, 3), "99");
        is(x.partSum(0, 6), "27");
        is(x.partSum(0, 4), "-9");
        is(x.partSum(0, 12), "-9");
        is(x.partSum(1, 2), "-9");
        is(wheel(1, 97).partSum(0, 2), "9".repeat(48));
        is(wheel(1, 37).partSum(0, 3), "9");
        is(x.house(2), 0);
        fails(BOUNDS, x, y -> y.partSum(3, 13));
        fails(ILLEGAL, x, y -> y.partSum(0, 13));
        fails(ILLEGAL, x, y -> y.partSum(0, 1));
    }

    private static void p42Nines() {
        Ninewheel x = wheel(4, 21);
        is(x.nines(0, 2), -1);
        is(x.nines(0, 3), 1);
        is(x.nines(0, 6), 3);
        is(x.nines(0, 5), -9);
        is(x.nines(1, 2), -9);
        is(wheel(1, 97).nines(0, 12), 6);
        is(wheel(10, 11).nines(0, 2), 1);
        is(x.house(2), 0);
        fails(BOUNDS, x, y -> y.nines(3, 13));
        fails(ILLEGAL, x, y -> y.nines(0, 13));
        fails(ILLEGAL, x, y -> y.nines(0, 1));
    }

    private static void p43PlaceOf() {
        Ninewheel x = wheel(1, 7);
        x.setWheel(1, 3, 7);
        is(x.placeOf(0, 1), 1);
        is(x.placeOf(1, 0), 5);
        is(x.placeOf(0, 0), 0);
        x.setWheel(1, 55, 77);
        is(x.placeOf(0, 1), 5);
        x.setWheel(1, 1, 13);
        is(x.placeOf(0, 1), -1);
        is(x.placeOf(0, 2), -1);
        is(x.placeOf(2, 2), 0);
        fails(BOUNDS, x, y -> y.placeOf(3, 0));
        fails(BOUNDS, x, y -> y.placeOf(0, -1));
    }

    private static void p44WheelOrder() {
        Ninewheel x = wheel(1, 3);
        x.setWheel(1, 33, 99);
        x.setWheel(2, 32, 97);
        is(x.wheelOrder(0, 1), 0);
        is(x.wheelOrder(0, 2), 1);
        is(x.wheelOrder(2, 1), -1);
        fails(BOUNDS, x, y -> y.wheelOrder(3, 0));
        fails(BOUNDS, x, y -> y.wheelOrder(0, 3));
    }

    private static void p45Against() {
        Ninewheel x = with(333, 3, 334, 3);
        x.setWheel(0, 1, 3);
        is(x.against(0, 0), 1);
        is(x.against(0, 1), -1);
        is(x.against(1, 2), 0);
        x.put(2, 999999, 0);
        x.put(3, -999999, 0);
        is(x.against(0, 2), -1);
        is(x.against(0, 3), 1);
        fails(BOUNDS, x, y -> y.against(3, 0));
        fails(BOUNDS, x, y -> y.against(0, 4));
        fails(BOUNDS, x, y -> y.against(0, -1));
    }

    private static void p46House() {
        Ninewheel x = new Ninewheel();
        x.put(0, 0, 0);
        x.strip(1);
        x.setWheel(0, 1, 7);
        x.turn(0, 0);
        x.cut(0, false, 1, 1, 2);
        x.cut(0, false, 1, 7, 2);
        x.cutText(0, false, 1, 7);
        x.partSum(0, 4);
        x.nines(0, 4);
        x.knock();
        x.isSound();
        x.digest();
        is(x.house(0), 3);
        is(x.house(1), 2);
        is(x.house(2), 1);
        is(x.house(3), 1);
        fails(ILLEGAL, x, y -> y.house(4));
        fails(ILLEGAL, x, y -> y.house(-1));
    }

    private static void p47Knock() {
        Ninewheel x = new Ninewheel();
        is(x.knock(), 1);
        is(x.knock(), 2);
        is(x.house(3), 2);
        is(x.house(0) + x.house(1) + x.house(2), 0);
        is(told(x), "0 | 0 | 0 | 0 | 0 1 0 0 1 | 0 1 0 0 1 | 0 1 0 0 1 | 0 | 0 | 0 | 2");
    }

    private static void p48IsSound() {
        Ninewheel x = new Ninewheel();
        is(x.isSound(), true);
        x.put(0, 999999, 0);
        x.put(1, -999999, 3);
        x.put(2, 999999, 0);
        x.put(3, 999, 3);
        x.setWheel(0, 96, 97);
        x.setWheel(1, 98, 99);
        x.setWheel(2, 22, 33);
        x.turn(0, 95);
        is(x.isSound(), true);
        x.times(2, 3, 2);
        is(x.isSound(), true);
    }

    private static void p49Digest() {
        // Written out by hand, a line each: the cells, their pairs, three wheels, their pairs, the house and isSound().
        long[] values = {
            0, 0, 1, 0, -12, 1, 2, -1, 12, 2, 2, 1, 0, 0, 1, 0,
            1, 0, -1, 0, 0, 1, -1, 0, -1, 0, 1, 0,
            1, 7, 1, 3, 6, 1, 1, 1, 1, 1, 1,
            0, 1, 0, 0, 1, -9, -9, 0, 1, -1, 0,
            4, 21, 0, 4, 6, -1, 1, 1, 1, 1, 1,
            1, -1, -1,
            2, 3, 1, 1, 1,
        };
        Ninewheel x = new Ninewheel();
        x.put(1, -12, 1);
        x.put(2, 12, 2);
        x.setWheel(0, 1, 7);
        x.step(0);
        x.setWheel(2, 4, 21);
        x.share(1, 0, 0);
        x.knock();
        long due = 7944;
        for (long value : values) {
            due = due * 31 + value;
        }
        is(x.digest(), due);
        is(x.digest(), due);
    }

    private static void decimals() {
        promise(1);
        p1New();
        promise(2);
        p2Put();
        promise(3);
        p3Write();
        promise(4);
        p4Copy();
        promise(5);
        p5Negate();
        promise(6);
        p6Size();
        promise(7);
        p7Add();
        promise(8);
        p8Subtract();
        promise(9);
        p9Multiply();
        promise(10);
        p10Power();
        promise(11);
        p11Divide();
        promise(12);
        p12Share();
        promise(13);
        p13Whole();
        promise(14);
        p14Rest();
        promise(15);
        p15SetPlaces();
        promise(16);
        p16Strip();
        promise(17);
        p17Move();
        promise(18);
        p18Round();
        promise(19);
        p19Greater();
        promise(20);
        p20Lesser();
        promise(21);
        p21Cut();
        p22to25Asked();
        promise(26);
        p26Text();
        promise(27);
        p27Order();
        promise(28);
        p28Same();
    }

    private static void wheels() {
        promise(29);
        p29SetWheel();
        promise(30);
        p30Step();
        promise(31);
        p31Turn();
        promise(32);
        p32Times();
        promise(33);
        p33Spoke();
        promise(34);
        p34Lowest();
        promise(35);
        p35Tens();
        promise(36);
        p36RestAt();
        promise(37);
        p37DigitsFrom();
        promise(38);
        p38CutText();
        promise(39);
        p39Number();
        promise(40);
        p40Product();
        promise(41);
        p41PartSum();
        promise(42);
        p42Nines();
        promise(43);
        p43PlaceOf();
        promise(44);
        p44WheelOrder();
        promise(45);
        p45Against();
    }

    public static void main(String[] args) {
        decimals();
        wheels();
        promise(46);
        p46House();
        promise(47);
        p47Knock();
        promise(48);
        p48IsSound();
        promise(49);
        p49Digest();
        end();
    }
}
