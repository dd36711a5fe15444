/**
 * Each sentence of the document that names a boundary case of DECIMALS, with the last case on its one side and the
 * first on its other. What an argument may be stands in BoundsTest.
 */
public final class DecimalEdgeTest extends Check {
    private static final int WAYS = 7;

    private DecimalEdgeTest() {
    }

    // ---- what the words mean

    private static void atFirst() {
        about(1, "At first each has COUNT 0 and PLACES 0");
        tells(new Ninewheel(), x -> x.count(0) + x.count(1) + x.count(2) + x.count(3), 0);
        tells(new Ninewheel(), x -> x.places(0) + x.places(1) + x.places(2) + x.places(3), 0);
        is(String.join(" | ", state(new Ninewheel())),
            "0 | 0 | 0 | 0 | 0 1 0 0 1 | 0 1 0 0 1 | 0 1 0 0 1 | 0 | 0 | 0 | 0");
    }

    private static void digitsOf() {
        about(24, "how many digits the size of its COUNT has, written without zeros ahead (of 0: 1)");
        for (String zero : new String[] {"0", "0.0", "0.00", "0.000"}) {
            tells(cells(zero), x -> x.digits(0), 1);
        }
        int least = 1;
        for (int i = 1; i <= 6; i++) {
            int digits = i;
            int first = least;
            for (int places = 0; places <= 3; places++) {
                for (int count : new int[] {first, 10 * first - 1, -first, 1 - 10 * first}) {
                    Ninewheel x = new Ninewheel();
                    x.put(3, count, places);
                    tells(x, y -> y.digits(3), digits);
                }
            }
            least *= 10;
        }
    }

    private static void textOf() {
        about(26, "with PLACES that are not 0, written with zeros ahead so that it has PLACES + 1 digits at least");
        int[] counts = {0, 9, 10, 99, 100, 999, 1000, 9999, 10000, 999999};
        String[][] due = {
            {"0", "9", "10", "99", "100", "999", "1000", "9999", "10000", "999999"},
            {"0.0", "0.9", "1.0", "9.9", "10.0", "99.9", "100.0", "999.9", "1000.0", "99999.9"},
            {"0.00", "0.09", "0.10", "0.99", "1.00", "9.99", "10.00", "99.99", "100.00", "9999.99"},
            {"0.000", "0.009", "0.010", "0.099", "0.100", "0.999", "1.000", "9.999", "10.000", "999.999"},
        };
        for (int places = 0; places <= 3; places++) {
            for (int i = 0; i < counts.length; i++) {
                String text = due[places][i];
                Ninewheel x = new Ninewheel();
                x.put(0, counts[i], places);
                x.put(1, -counts[i], places);
                tells(x, y -> y.text(0, 0) + y.text(0, 1), text + text);
                String below = counts[i] == 0 ? text : "-" + text;
                tells(x, y -> y.text(1, 0) + y.text(1, 1), below + below);
            }
        }
    }

    private static void countPlacesSign() {
        about(22, "Returns its COUNT");
        tells(cells("-9999.99", "999.999"), x -> x.count(0), -999999);
        tells(cells("-9999.99", "999.999"), x -> x.count(1), 999999);
        about(23, "Returns its PLACES");
        tells(cells("0.000", "1", "1.0", "1.00"), x -> x.places(0) * 1000 + x.places(1) * 100 + x.places(2) * 10
            + x.places(3), 3012);
        about(25, "-1 if its COUNT is below 0, 0 if it is 0, 1 if above");
        tells(cells("-0.001"), x -> x.sign(0), -1);
        tells(cells("0.000"), x -> x.sign(0), 0);
        tells(cells("0.001"), x -> x.sign(0), 1);
        tells(cells("-999999"), x -> x.sign(0), -1);
        tells(cells("999999"), x -> x.sign(0), 1);
    }

    // ---- what comes to a cell

    private static void put() {
        about(2, "A DECIMAL comes to a cell");
        brings(new Ninewheel(), x -> x.put(0, 999999, 3), 1, 0, "999.999");
        brings(new Ninewheel(), x -> x.put(3, -999999, 0), 1, 3, "-999999");
        about(2, "Returns CHANGE: two are the SAME, if their COUNTS are equal and their PLACES are");
        brings(cells("1.0"), x -> x.put(0, 10, 1), 0, 0, "1.0");
        brings(cells("1.0"), x -> x.put(0, 1, 0), 1, 0, "1");
        brings(cells("1.0"), x -> x.put(0, 100, 2), 1, 0, "1.00");
        brings(cells("1.0"), x -> x.put(0, 10, 0), 1, 0, "10");
        brings(cells("1.0"), x -> x.put(0, -10, 1), 1, 0, "-1.0");
        brings(cells("0"), x -> x.put(0, 0, 0), 0, 0, "0");
        brings(cells("0"), x -> x.put(0, 0, 3), 1, 0, "0.000");
    }

    private static void write() {
        about(3, "if many is not 0, \".\" and tail, with zeros ahead, many signs long");
        brings(new Ninewheel(), x -> x.write(0, false, 7, 0, 0), 1, 0, "7");
        brings(new Ninewheel(), x -> x.write(0, false, 7, 1, 9), 1, 0, "7.9");
        brings(new Ninewheel(), x -> x.write(0, false, 7, 2, 9), 1, 0, "7.09");
        brings(new Ninewheel(), x -> x.write(0, false, 7, 2, 99), 1, 0, "7.99");
        brings(new Ninewheel(), x -> x.write(0, false, 7, 3, 9), 1, 0, "7.009");
        brings(new Ninewheel(), x -> x.write(0, false, 7, 3, 999), 1, 0, "7.999");
        about(3, "Its PLACES are many");
        brings(new Ninewheel(), x -> x.write(0, false, 7, 3, 0), 1, 0, "7.000");
        brings(cells("7"), x -> x.write(0, false, 7, 1, 0), 1, 0, "7.0");
        brings(cells("7.0"), x -> x.write(0, false, 7, 1, 0), 0, 0, "7.0");
        about(3, "with isMinus its value is below 0, if it is not 0");
        brings(new Ninewheel(), x -> x.write(0, true, 0, 3, 1), 1, 0, "-0.001");
        brings(new Ninewheel(), x -> x.write(0, true, 0, 0, 0), 0, 0, "0");
        brings(new Ninewheel(), x -> x.write(0, true, 0, 3, 0), 1, 0, "0.000");
        brings(cells("0.00"), x -> x.write(0, true, 0, 2, 0), 0, 0, "0.00");
        about(3, "-9 if it does not FIT");
        brings(cells("1"), x -> x.write(0, false, 999999, 0, 0), 1, 0, "999999");
        brings(cells("1"), x -> x.write(0, true, 99999, 1, 9), 1, 0, "-99999.9");
        brings(cells("1"), x -> x.write(0, false, 9999, 2, 99), 1, 0, "9999.99");
        brings(cells("1"), x -> x.write(0, true, 999, 3, 999), 1, 0, "-999.999");
        for (boolean isMinus : new boolean[] {false, true}) {
            declines(cells("1"), x -> x.write(0, isMinus, 100000, 1, 0));
            declines(cells("1"), x -> x.write(0, isMinus, 10000, 2, 0));
            declines(cells("1"), x -> x.write(0, isMinus, 1000, 3, 0));
            declines(cells("1"), x -> x.write(0, isMinus, 999999, 3, 999));
        }
    }

    private static void copyNegateSize() {
        about(4, "What a cell has comes to another one, too");
        brings(cells("-0.50"), x -> x.copy(0, 3), 1, 3, "-0.50");
        brings(cells("1", "2", "3", "-0.50"), x -> x.copy(3, 0), 1, 0, "-0.50");
        brings(cells("-0.50"), x -> x.copy(0, 0), 0, 0, "-0.50");
        about(4, "Returns CHANGE");
        brings(cells("1.0", "1.00"), x -> x.copy(0, 1), 1, 1, "1.0");
        brings(cells("1.0", "1.0"), x -> x.copy(0, 1), 0, 1, "1.0");
        about(5, "The COUNT of a cell changes its sign; its PLACES stay");
        brings(cells("999.999"), x -> x.negate(0), 1, 0, "-999.999");
        brings(cells("0", "-999999"), x -> x.negate(1), 1, 1, "999999");
        brings(cells("0"), x -> x.negate(0), 0, 0, "0");
        brings(cells("0.000"), x -> x.negate(0), 0, 0, "0.000");
        about(6, "The COUNT of a cell becomes its size; its PLACES stay");
        brings(cells("-999.999"), x -> x.size(0), 1, 0, "999.999");
        brings(cells("0", "999999"), x -> x.size(1), 0, 1, "999999");
        brings(cells("-0.1"), x -> x.size(0), 1, 0, "0.1");
        brings(cells("0.0"), x -> x.size(0), 0, 0, "0.0");
    }

    private static void add() {
        about(7, "comes to a cell, with the more PLACES of both");
        brings(cells("1.5", "2.500"), x -> x.add(0, 1, 2), 1, 2, "4.000");
        brings(cells("1.500", "2.5"), x -> x.add(0, 1, 2), 1, 2, "4.000");
        brings(cells("0.5", "-0.5"), x -> x.add(0, 1, 2), 1, 2, "0.0");
        brings(cells("-7", "0.000"), x -> x.add(0, 1, 2), 1, 2, "-7.000");
        about(7, "-9 if it does not FIT");
        brings(cells("999998", "1"), x -> x.add(0, 1, 2), 1, 2, "999999");
        declines(cells("999999", "1"), x -> x.add(0, 1, 2));
        brings(cells("-999998", "-1"), x -> x.add(0, 1, 2), 1, 2, "-999999");
        declines(cells("-999999", "-1"), x -> x.add(0, 1, 2));
        brings(cells("999", "0.999"), x -> x.add(0, 1, 2), 1, 2, "999.999");
        declines(cells("1000", "0.000"), x -> x.add(0, 1, 2));
        declines(cells("0.000", "-1000"), x -> x.add(0, 1, 2));
        brings(cells("1000", "-0.001"), x -> x.add(0, 1, 2), 1, 2, "999.999");
        declines(cells("999999", "999999"), x -> x.add(0, 1, 2));
        declines(cells("999999", "999.999"), x -> x.add(0, 1, 2));
        about(7, "it is made from what was there");
        brings(cells("1.5", "2.25"), x -> x.add(0, 1, 0), 1, 0, "3.75");
        brings(cells("1.5", "2.25"), x -> x.add(0, 1, 1), 1, 1, "3.75");
        brings(cells("1.5"), x -> x.add(0, 0, 0), 1, 0, "3.0");
        brings(cells("1.5", "0"), x -> x.add(0, 1, 0), 0, 0, "1.5");
        brings(cells("1.5", "0.00"), x -> x.add(0, 1, 0), 1, 0, "1.50");
        declines(cells("500000"), x -> x.add(0, 0, 0));
        declines(cells("999999", "1"), x -> x.add(0, 1, 1));
    }

    private static void subtract() {
        about(8, "comes to a cell, with the more PLACES of both");
        brings(cells("1.5", "2.500"), x -> x.subtract(0, 1, 2), 1, 2, "-1.000");
        brings(cells("1.500", "2.5"), x -> x.subtract(0, 1, 2), 1, 2, "-1.000");
        brings(cells("7", "0.000"), x -> x.subtract(1, 0, 2), 1, 2, "-7.000");
        about(8, "-9 if it does not FIT");
        brings(cells("-999998", "1"), x -> x.subtract(0, 1, 2), 1, 2, "-999999");
        declines(cells("-999999", "1"), x -> x.subtract(0, 1, 2));
        brings(cells("999998", "-1"), x -> x.subtract(0, 1, 2), 1, 2, "999999");
        declines(cells("999999", "-1"), x -> x.subtract(0, 1, 2));
        brings(cells("1000", "0.001"), x -> x.subtract(0, 1, 2), 1, 2, "999.999");
        declines(cells("1000", "0.000"), x -> x.subtract(0, 1, 2));
        declines(cells("0.000", "1000"), x -> x.subtract(0, 1, 2));
        declines(cells("-999999", "999999"), x -> x.subtract(0, 1, 2));
        about(8, "it is made from what was there");
        brings(cells("1.5", "2.25"), x -> x.subtract(0, 1, 0), 1, 0, "-0.75");
        brings(cells("1.5", "2.25"), x -> x.subtract(0, 1, 1), 1, 1, "-0.75");
        brings(cells("1.5"), x -> x.subtract(0, 0, 0), 1, 0, "0.0");
        brings(cells("0.0"), x -> x.subtract(0, 0, 0), 0, 0, "0.0");
        declines(cells("500000", "-500000"), x -> x.subtract(0, 1, 1));
        declines(cells("500000", "-500000"), x -> x.subtract(0, 1, 0));
    }

    private static void multiply() {
        about(9, "its PLACES are those of both together");
        brings(cells("1.5", "0.25"), x -> x.multiply(0, 1, 2), 1, 2, "0.375");
        brings(cells("0.5", "2.0"), x -> x.multiply(0, 1, 2), 1, 2, "1.00");
        brings(cells("0.000", "7"), x -> x.multiply(0, 1, 2), 1, 2, "0.000");
        brings(cells("-7", "-0.001"), x -> x.multiply(0, 1, 2), 1, 2, "0.007");
        about(9, "-9 if it does not FIT: PLACES beyond 3, also of 0");
        declines(cells("0.01", "0.01"), x -> x.multiply(0, 1, 2));
        declines(cells("0.00", "0.00"), x -> x.multiply(0, 1, 2));
        declines(cells("0.000", "0.0"), x -> x.multiply(0, 1, 2));
        declines(cells("1.000", "1.000"), x -> x.multiply(0, 1, 2));
        about(9, "-9 if it does not FIT");
        brings(cells("999", "1001"), x -> x.multiply(0, 1, 2), 1, 2, "999999");
        declines(cells("1000", "1000"), x -> x.multiply(0, 1, 2));
        brings(cells("-999", "1001"), x -> x.multiply(0, 1, 2), 1, 2, "-999999");
        declines(cells("-1000", "1000"), x -> x.multiply(0, 1, 2));
        declines(cells("999999", "999999"), x -> x.multiply(0, 1, 2));
        declines(cells("999999", "-999999"), x -> x.multiply(0, 1, 2));
        declines(cells("65536", "65536"), x -> x.multiply(0, 1, 2));
        about(9, "it is made from what was there");
        brings(cells("-1.5", "3.0"), x -> x.multiply(0, 1, 0), 1, 0, "-4.50");
        brings(cells("-1.5", "3.0"), x -> x.multiply(0, 1, 1), 1, 1, "-4.50");
        brings(cells("-1.5"), x -> x.multiply(0, 0, 0), 1, 0, "2.25");
        brings(cells("1"), x -> x.multiply(0, 0, 0), 0, 0, "1");
        declines(cells("1.00"), x -> x.multiply(0, 0, 0));
        declines(cells("1000"), x -> x.multiply(0, 0, 0));
    }

    private static void power() {
        about(10, "raise 0: it is 1, with 0 PLACES");
        brings(cells("-9.999"), x -> x.power(0, 0, 2), 1, 2, "1");
        brings(cells("0.000"), x -> x.power(0, 0, 2), 1, 2, "1");
        brings(cells("0.000"), x -> x.power(0, 0, 0), 1, 0, "1");
        brings(cells("1"), x -> x.power(0, 0, 0), 0, 0, "1");
        about(10, "its PLACES are raise * those of that");
        brings(cells("-9.999"), x -> x.power(0, 1, 2), 1, 2, "-9.999");
        brings(cells("-0.5"), x -> x.power(0, 2, 2), 1, 2, "0.25");
        brings(cells("-0.5"), x -> x.power(0, 3, 2), 1, 2, "-0.125");
        brings(cells("0.0"), x -> x.power(0, 3, 2), 1, 2, "0.000");
        declines(cells("0.00"), x -> x.power(0, 2, 2));
        declines(cells("0.00"), x -> x.power(0, 3, 2));
        declines(cells("0.000"), x -> x.power(0, 2, 2));
        about(10, "-9 if it does not FIT");
        brings(cells("99"), x -> x.power(0, 3, 2), 1, 2, "970299");
        declines(cells("100"), x -> x.power(0, 3, 2));
        brings(cells("-99"), x -> x.power(0, 3, 2), 1, 2, "-970299");
        declines(cells("-100"), x -> x.power(0, 3, 2));
        brings(cells("-999"), x -> x.power(0, 2, 2), 1, 2, "998001");
        declines(cells("-1000"), x -> x.power(0, 2, 2));
        brings(cells("-999999"), x -> x.power(0, 1, 2), 1, 2, "-999999");
        declines(cells("999999"), x -> x.power(0, 3, 2));
        declines(cells("-999999"), x -> x.power(0, 3, 2));
        declines(cells("65536"), x -> x.power(0, 2, 2));
        declines(cells("65536"), x -> x.power(0, 3, 2));
        about(10, "it is made from what was there");
        brings(cells("-1.2"), x -> x.power(0, 3, 0), 1, 0, "-1.728");
        brings(cells("-1.2"), x -> x.power(0, 1, 0), 0, 0, "-1.2");
        declines(cells("1000"), x -> x.power(0, 2, 0));
    }

    private static void divide() {
        about(11, "-9 if the other one's value is 0");
        for (String zero : new String[] {"0", "0.0", "0.00", "0.000"}) {
            for (int i = 0; i <= WAYS; i++) {
                int way = i;
                declines(cells("1", zero), x -> x.divide(0, 1, 0, way, 2));
                declines(cells("0", zero), x -> x.divide(0, 1, 3, way, 0));
            }
        }
        brings(cells("1", "0.001"), x -> x.divide(0, 1, 0, 7, 2), 1, 2, "1000");
        brings(cells("1", "-0.001"), x -> x.divide(0, 1, 0, 7, 2), 1, 2, "-1000");
        about(11, "or it is REFUSED");
        brings(cells("1", "8"), x -> x.divide(0, 1, 3, 7, 2), 1, 2, "0.125");
        declines(cells("1", "8"), x -> x.divide(0, 1, 2, 7, 2));
        declines(cells("1", "-3"), x -> x.divide(0, 1, 3, 7, 0));
        declines(cells("1", "-3"), x -> x.divide(0, 1, 3, 7, 1));
        brings(cells("0.00", "-3"), x -> x.divide(0, 1, 1, 7, 2), 1, 2, "0.0");
        about(11, "or does not FIT");
        brings(cells("999.999", "0.001"), x -> x.divide(0, 1, 0, 7, 2), 1, 2, "999999");
        declines(cells("1000", "0.001"), x -> x.divide(0, 1, 0, 7, 2));
        brings(cells("999.999", "-0.001"), x -> x.divide(0, 1, 0, 7, 2), 1, 2, "-999999");
        declines(cells("-1000", "0.001"), x -> x.divide(0, 1, 0, 7, 2));
        brings(cells("999.999", "1"), x -> x.divide(0, 1, 3, 7, 2), 1, 2, "999.999");
        declines(cells("1000", "1"), x -> x.divide(0, 1, 3, 7, 2));
        declines(cells("999999", "0.001"), x -> x.divide(0, 1, 3, 0, 2));
        declines(cells("999999", "0.001"), x -> x.divide(0, 1, 3, 0, 0));
        declines(cells("999999", "0.001"), x -> x.divide(0, 1, 3, 0, 1));
        about(11, "it is made from what was there");
        brings(cells("7", "-2.0"), x -> x.divide(0, 1, 1, 7, 0), 1, 0, "-3.5");
        brings(cells("7", "-2.0"), x -> x.divide(0, 1, 1, 7, 1), 1, 1, "-3.5");
        brings(cells("-7.00"), x -> x.divide(0, 0, 0, 7, 0), 1, 0, "1");
        brings(cells("1.00"), x -> x.divide(0, 0, 2, 7, 0), 0, 0, "1.00");
    }

    /** Of each way the count for values on both sides of the middle between two neighbours, and in it. */
    private static void roundedByDivide() {
        String[] values = {"0.001", "0.499", "0.5", "0.501", "0.999", "1.001", "1.499", "1.5", "1.501", "1.999",
            "2.499", "2.5", "2.501"};
        int[][] due = {
            {1, 1, 1, 1, 1, 2, 2, 2, 2, 2, 3, 3, 3},
            {0, 0, 0, 0, 0, 1, 1, 1, 1, 1, 2, 2, 2},
            {1, 1, 1, 1, 1, 2, 2, 2, 2, 2, 3, 3, 3},
            {0, 0, 0, 0, 0, 1, 1, 1, 1, 1, 2, 2, 2},
            {0, 0, 1, 1, 1, 1, 1, 2, 2, 2, 2, 3, 3},
            {0, 0, 0, 1, 1, 1, 1, 1, 2, 2, 2, 2, 3},
            {0, 0, 0, 1, 1, 1, 1, 2, 2, 2, 2, 2, 3},
        };
        // Below 0, the greater one is the one that is nearer to 0, and the lesser one the one that is farther.
        int[] mirrored = {0, 1, 3, 2, 4, 5, 6};
        for (int i = 0; i < values.length; i++) {
            String value = values[i];
            for (int j = 0; j < WAYS; j++) {
                int way = j;
                int above = due[way][i];
                int below = -due[mirrored[way]][i];
                about(11, "ROUNDED by WAY " + way + ": " + value);
                brings(cells(value, "1", "7"), x -> x.divide(0, 1, 0, way, 2), 1, 2, "" + above);
                brings(cells("-" + value, "-1", "7"), x -> x.divide(0, 1, 0, way, 2), 1, 2, "" + above);
                brings(cells("-" + value, "1", "7"), x -> x.divide(0, 1, 0, way, 2), 1, 2, "" + below);
                brings(cells(value, "-1", "7"), x -> x.divide(0, 1, 0, way, 2), 1, 2, "" + below);
                about(15, "ROUNDED by WAY " + way + ": " + value);
                brings(cells(value), x -> x.setPlaces(0, 0, way), 1, 0, "" + above);
                brings(cells("-" + value), x -> x.setPlaces(0, 0, way), 1, 0, "" + below);
            }
            about(15, "of WAY 7: none; it is REFUSED: " + value);
            declines(cells(value), x -> x.setPlaces(0, 0, 7));
            declines(cells("-" + value), x -> x.setPlaces(0, 0, 7));
            declines(cells(value, "1"), x -> x.divide(0, 1, 0, 7, 2));
            declines(cells("-" + value, "1"), x -> x.divide(0, 1, 0, 7, 2));
        }
    }

    private static void wholeUnits() {
        about(15, "If the value is a whole number of units, that is the COUNT, by each WAY");
        for (int i = 0; i <= WAYS; i++) {
            int way = i;
            brings(cells("-3.000"), x -> x.setPlaces(0, 0, way), 1, 0, "-3");
            brings(cells("3.000"), x -> x.setPlaces(0, 2, way), 1, 0, "3.00");
            brings(cells("3"), x -> x.setPlaces(0, 3, way), 1, 0, "3.000");
            brings(cells("0.000"), x -> x.setPlaces(0, 0, way), 1, 0, "0");
            brings(cells("-3.25"), x -> x.setPlaces(0, 2, way), 0, 0, "-3.25");
            brings(cells("-9", "3"), x -> x.divide(0, 1, 0, way, 2), 1, 2, "-3");
            brings(wheels(0, 7), x -> x.cut(0, true, 3, way, 2), 1, 2, "0.000");
            brings(cells("-1200"), x -> x.round(0, 2, way), 0, 0, "-1200");
            brings(cells("-120.0"), x -> x.round(0, 2, way), 1, 0, "-120");
        }
    }

    private static void share() {
        about(12, "-9 if by is 0");
        declines(cells("0"), x -> x.share(0, 0, 1));
        declines(cells("6.000"), x -> x.share(0, 0, 0));
        about(12, "with the least PLACES that are not less than those of the DECIMAL that is divided");
        brings(cells("6.00"), x -> x.share(0, 3, 1), 1, 1, "2.00");
        brings(cells("6.0"), x -> x.share(0, 4, 1), 1, 1, "1.5");
        brings(cells("6"), x -> x.share(0, 4, 1), 1, 1, "1.5");
        brings(cells("6.0"), x -> x.share(0, 8, 1), 1, 1, "0.75");
        brings(cells("0.000"), x -> x.share(0, -99, 1), 1, 1, "0.000");
        brings(cells("0"), x -> x.share(0, -99, 1), 0, 1, "0");
        about(12, "or no number of PLACES is enough");
        brings(cells("1"), x -> x.share(0, 8, 1), 1, 1, "0.125");
        declines(cells("1"), x -> x.share(0, 16, 1));
        declines(cells("1"), x -> x.share(0, -16, 0));
        declines(cells("1"), x -> x.share(0, 3, 1));
        brings(cells("0.002"), x -> x.share(0, 2, 1), 1, 1, "0.001");
        declines(cells("0.001"), x -> x.share(0, 2, 1));
        declines(cells("-0.003"), x -> x.share(0, 2, 1));
        brings(cells("99"), x -> x.share(0, -99, 1), 1, 1, "-1");
        brings(cells("-99"), x -> x.share(0, 99, 1), 1, 1, "-1");
        declines(cells("98"), x -> x.share(0, 99, 1));
        about(12, "or it does not FIT");
        brings(cells("199999"), x -> x.share(0, 2, 1), 1, 1, "99999.5");
        declines(cells("200001"), x -> x.share(0, 2, 1));
        brings(cells("-199999"), x -> x.share(0, 2, 1), 1, 1, "-99999.5");
        declines(cells("-200001"), x -> x.share(0, 2, 1));
        brings(cells("7999"), x -> x.share(0, 8, 1), 1, 1, "999.875");
        declines(cells("8001"), x -> x.share(0, 8, 1));
        brings(cells("-999999"), x -> x.share(0, -1, 1), 1, 1, "999999");
        about(12, "it is made from what was there");
        brings(cells("-7"), x -> x.share(0, 2, 0), 1, 0, "-3.5");
        brings(cells("-7.0"), x -> x.share(0, 1, 0), 0, 0, "-7.0");
        declines(cells("999999"), x -> x.share(0, 2, 0));
    }

    private static void whole() {
        about(13, "-9 if by is 0");
        declines(cells("0"), x -> x.whole(0, 0, 1));
        declines(cells("5"), x -> x.whole(0, 0, 0));
        about(13, "what stands behind the point left off (towards 0), with 0 PLACES");
        brings(cells("0.999", "7"), x -> x.whole(0, 1, 1), 1, 1, "0");
        brings(cells("-0.999", "7"), x -> x.whole(0, 1, 1), 1, 1, "0");
        brings(cells("1.000", "7"), x -> x.whole(0, 1, 1), 1, 1, "1");
        brings(cells("-1.000", "7"), x -> x.whole(0, 1, 1), 1, 1, "-1");
        brings(cells("98.999", "7"), x -> x.whole(0, 99, 1), 1, 1, "0");
        brings(cells("99.000", "7"), x -> x.whole(0, 99, 1), 1, 1, "1");
        brings(cells("-98.999", "7"), x -> x.whole(0, -99, 1), 1, 1, "0");
        brings(cells("-99.000", "7"), x -> x.whole(0, -99, 1), 1, 1, "1");
        brings(cells("-7.9"), x -> x.whole(0, 2, 1), 1, 1, "-3");
        brings(cells("7.9"), x -> x.whole(0, -2, 1), 1, 1, "-3");
        brings(cells("999999"), x -> x.whole(0, -1, 1), 1, 1, "-999999");
        about(13, "it is made from what was there");
        brings(cells("-7.9"), x -> x.whole(0, 2, 0), 1, 0, "-3");
        brings(cells("5"), x -> x.whole(0, 1, 0), 0, 0, "5");
        brings(cells("5.0"), x -> x.whole(0, 1, 0), 1, 0, "5");
        brings(cells("0.000"), x -> x.whole(0, 1, 0), 1, 0, "0");
    }

    private static void rest() {
        about(14, "-9 if by is 0");
        declines(cells("0"), x -> x.rest(0, 0, 1));
        declines(cells("5"), x -> x.rest(0, 0, 0));
        about(14, "the value less by * the WHOLE; with the PLACES of the DECIMAL that is divided");
        brings(cells("98.999"), x -> x.rest(0, 99, 1), 1, 1, "98.999");
        brings(cells("99.000"), x -> x.rest(0, 99, 1), 1, 1, "0.000");
        brings(cells("-98.999"), x -> x.rest(0, 99, 1), 1, 1, "-98.999");
        brings(cells("-99.001"), x -> x.rest(0, -99, 1), 1, 1, "-0.001");
        brings(cells("0.999"), x -> x.rest(0, 1, 1), 1, 1, "0.999");
        brings(cells("-1.000"), x -> x.rest(0, 1, 1), 1, 1, "0.000");
        brings(cells("7.9"), x -> x.rest(0, 2, 1), 1, 1, "1.9");
        brings(cells("7.9"), x -> x.rest(0, -2, 1), 1, 1, "1.9");
        brings(cells("-7.9"), x -> x.rest(0, 2, 1), 1, 1, "-1.9");
        brings(cells("-7.9"), x -> x.rest(0, -2, 1), 1, 1, "-1.9");
        brings(cells("0"), x -> x.rest(0, 99, 1), 0, 1, "0");
        about(14, "it is made from what was there");
        brings(cells("-7.9"), x -> x.rest(0, 2, 0), 1, 0, "-1.9");
        brings(cells("1.9"), x -> x.rest(0, 2, 0), 0, 0, "1.9");
    }

    private static void setPlaces() {
        about(15, "-9 if it is REFUSED, or does not FIT");
        brings(cells("99999"), x -> x.setPlaces(0, 1, 7), 1, 0, "99999.0");
        declines(cells("100000"), x -> x.setPlaces(0, 1, 7));
        brings(cells("-9999"), x -> x.setPlaces(0, 2, 0), 1, 0, "-9999.00");
        declines(cells("-10000"), x -> x.setPlaces(0, 2, 0));
        brings(cells("999.99"), x -> x.setPlaces(0, 3, 1), 1, 0, "999.990");
        declines(cells("1000.00"), x -> x.setPlaces(0, 3, 1));
        declines(cells("-1000"), x -> x.setPlaces(0, 3, 1));
        declines(cells("999999"), x -> x.setPlaces(0, 3, 6));
        brings(cells("999.999"), x -> x.setPlaces(0, 3, 7), 0, 0, "999.999");
        brings(cells("999.999"), x -> x.setPlaces(0, 2, 0), 1, 0, "1000.00");
        brings(cells("99999.9"), x -> x.setPlaces(0, 0, 4), 1, 0, "100000");
        about(15, "a unit is 1 / 10^PLACES");
        brings(cells("0.125"), x -> x.setPlaces(0, 2, 6), 1, 0, "0.12");
        brings(cells("0.135"), x -> x.setPlaces(0, 2, 6), 1, 0, "0.14");
        brings(cells("-0.050"), x -> x.setPlaces(0, 1, 5), 1, 0, "0.0");
        brings(cells("-0.051"), x -> x.setPlaces(0, 1, 5), 1, 0, "-0.1");
        brings(cells("0.049"), x -> x.setPlaces(0, 1, 4), 1, 0, "0.0");
    }

    private static void strip() {
        about(16, "The PLACES of a cell become the least ones with which one can have its value");
        brings(cells("0.000"), x -> x.strip(0), 1, 0, "0");
        brings(cells("0"), x -> x.strip(0), 0, 0, "0");
        brings(cells("1.000"), x -> x.strip(0), 1, 0, "1");
        brings(cells("-10.500"), x -> x.strip(0), 1, 0, "-10.5");
        brings(cells("-10.050"), x -> x.strip(0), 1, 0, "-10.05");
        brings(cells("0.001"), x -> x.strip(0), 0, 0, "0.001");
        brings(cells("100.0"), x -> x.strip(0), 1, 0, "100");
        brings(cells("100"), x -> x.strip(0), 0, 0, "100");
        brings(cells("0", "-999000", "-999.000"), x -> x.strip(2), 1, 2, "-999");
    }

    private static void move() {
        about(17, "Its PLACES become what they were + left, but 0 if that is below 0");
        brings(cells("12"), x -> x.move(0, 3), 1, 0, "0.012");
        brings(cells("-1.25"), x -> x.move(0, 1), 1, 0, "-0.125");
        brings(cells("-1.250"), x -> x.move(0, -3), 1, 0, "-1250");
        brings(cells("-1.25"), x -> x.move(0, -2), 1, 0, "-125");
        brings(cells("-1.25"), x -> x.move(0, -3), 1, 0, "-1250");
        brings(cells("-1.25"), x -> x.move(0, -1), 1, 0, "-12.5");
        brings(cells("12"), x -> x.move(0, -3), 1, 0, "12000");
        brings(cells("-1.25"), x -> x.move(0, 0), 0, 0, "-1.25");
        brings(cells("0"), x -> x.move(0, -3), 0, 0, "0");
        brings(cells("0.00"), x -> x.move(0, -3), 1, 0, "0");
        brings(cells("0"), x -> x.move(0, 3), 1, 0, "0.000");
        about(17, "-9 if it does not FIT");
        declines(cells("1.0"), x -> x.move(0, 3));
        declines(cells("0.000"), x -> x.move(0, 1));
        declines(cells("0.00"), x -> x.move(0, 2));
        brings(cells("999"), x -> x.move(0, -3), 1, 0, "999000");
        declines(cells("1000"), x -> x.move(0, -3));
        brings(cells("-9999.9"), x -> x.move(0, -2), 1, 0, "-999990");
        declines(cells("-10000.0"), x -> x.move(0, -2));
        brings(cells("-99999"), x -> x.move(0, -1), 1, 0, "-999990");
        declines(cells("-100000"), x -> x.move(0, -1));
        declines(cells("999999"), x -> x.move(0, -3));
        brings(cells("999.999"), x -> x.move(0, -3), 1, 0, "999999");
    }

    private static void round() {
        about(18, "If it has not more, it stays");
        for (int i = 0; i <= WAYS; i++) {
            int way = i;
            brings(cells("-0.999"), x -> x.round(0, 3, way), 0, 0, "-0.999");
            brings(cells("0.099"), x -> x.round(0, 2, way), 0, 0, "0.099");
            brings(cells("999999"), x -> x.round(0, 6, way), 0, 0, "999999");
            brings(cells("0.000"), x -> x.round(0, 1, way), 0, 0, "0.000");
            brings(cells("1.00"), x -> x.round(0, 3, way), 0, 0, "1.00");
        }
        about(18, "Otherwise let e be its PLACES - (its DIGITS - digits)");
        brings(cells("-1.234"), x -> x.round(0, 3, 1), 1, 0, "-1.23");
        brings(cells("-1.234"), x -> x.round(0, 1, 1), 1, 0, "-1");
        brings(cells("12.34"), x -> x.round(0, 2, 1), 1, 0, "12");
        brings(cells("1.00"), x -> x.round(0, 2, 7), 1, 0, "1.0");
        about(18, "where e below 0 stands for units of 10^-e; the same value is said with 0 PLACES");
        brings(cells("12.34"), x -> x.round(0, 1, 1), 1, 0, "10");
        brings(cells("123456"), x -> x.round(0, 1, 1), 1, 0, "100000");
        brings(cells("-12345.6"), x -> x.round(0, 2, 0), 1, 0, "-13000");
        brings(cells("150"), x -> x.round(0, 1, 6), 1, 0, "200");
        brings(cells("250"), x -> x.round(0, 1, 6), 1, 0, "200");
        brings(cells("250"), x -> x.round(0, 1, 5), 1, 0, "200");
        brings(cells("251"), x -> x.round(0, 1, 5), 1, 0, "300");
        brings(cells("249"), x -> x.round(0, 1, 4), 1, 0, "200");
        brings(cells("-250"), x -> x.round(0, 1, 2), 1, 0, "-200");
        brings(cells("-250"), x -> x.round(0, 1, 3), 1, 0, "-300");
        about(18, "if the number of units has one digit more than digits then, one zero goes and e becomes less by 1");
        brings(cells("9.994"), x -> x.round(0, 3, 4), 1, 0, "9.99");
        brings(cells("9.995"), x -> x.round(0, 3, 4), 1, 0, "10.0");
        brings(cells("0.999"), x -> x.round(0, 2, 4), 1, 0, "1.0");
        brings(cells("0.99"), x -> x.round(0, 1, 4), 1, 0, "1");
        brings(cells("9.9"), x -> x.round(0, 1, 0), 1, 0, "10");
        brings(cells("-99.9"), x -> x.round(0, 1, 0), 1, 0, "-100");
        brings(cells("99.5"), x -> x.round(0, 2, 6), 1, 0, "100");
        about(18, "-9 if it is REFUSED");
        declines(cells("-1.234"), x -> x.round(0, 3, 7));
        declines(cells("100001"), x -> x.round(0, 5, 7));
        brings(cells("100000"), x -> x.round(0, 1, 7), 0, 0, "100000");
        brings(cells("10000.0"), x -> x.round(0, 1, 7), 1, 0, "10000");
        about(18, "or does not FIT");
        brings(cells("999994"), x -> x.round(0, 5, 4), 1, 0, "999990");
        declines(cells("999995"), x -> x.round(0, 5, 4));
        brings(cells("999995"), x -> x.round(0, 5, 5), 1, 0, "999990");
        declines(cells("999995"), x -> x.round(0, 5, 6));
        brings(cells("-999999"), x -> x.round(0, 5, 2), 1, 0, "-999990");
        declines(cells("-999999"), x -> x.round(0, 5, 3));
        declines(cells("900001"), x -> x.round(0, 1, 0));
        brings(cells("99999.9"), x -> x.round(0, 1, 0), 1, 0, "100000");
    }

    private static void greaterAndLesser() {
        about(19, "The one with the greater value comes to a cell as it is");
        brings(cells("1.001", "1"), x -> x.greater(0, 1, 2), 1, 2, "1.001");
        brings(cells("1.001", "1"), x -> x.greater(1, 0, 2), 1, 2, "1.001");
        brings(cells("-1.001", "-1"), x -> x.greater(0, 1, 2), 1, 2, "-1");
        brings(cells("-999999", "-999.999"), x -> x.greater(0, 1, 2), 1, 2, "-999.999");
        about(19, "if the values are equal: the first one");
        brings(cells("1.00", "1.0"), x -> x.greater(0, 1, 2), 1, 2, "1.00");
        brings(cells("1.00", "1.0"), x -> x.greater(1, 0, 2), 1, 2, "1.0");
        brings(cells("1.00", "1.0"), x -> x.greater(0, 1, 1), 1, 1, "1.00");
        brings(cells("1.00", "1.0"), x -> x.greater(0, 1, 0), 0, 0, "1.00");
        brings(cells("1.00"), x -> x.greater(0, 0, 0), 0, 0, "1.00");
        about(20, "The one with the lesser value comes to a cell as it is");
        brings(cells("1.001", "1"), x -> x.lesser(0, 1, 2), 1, 2, "1");
        brings(cells("1.001", "1"), x -> x.lesser(1, 0, 2), 1, 2, "1");
        brings(cells("-1.001", "-1"), x -> x.lesser(0, 1, 2), 1, 2, "-1.001");
        brings(cells("-999999", "-999.999"), x -> x.lesser(0, 1, 2), 1, 2, "-999999");
        about(20, "if the values are equal: the first one");
        brings(cells("1.00", "1.0"), x -> x.lesser(0, 1, 2), 1, 2, "1.00");
        brings(cells("1.00", "1.0"), x -> x.lesser(1, 0, 2), 1, 2, "1.0");
        brings(cells("1.00", "1.0"), x -> x.lesser(0, 1, 1), 1, 1, "1.00");
        brings(cells("1.00", "1.0"), x -> x.lesser(0, 1, 0), 0, 0, "1.00");
        brings(cells("1.00"), x -> x.lesser(0, 0, 0), 0, 0, "1.00");
    }

    private static void cut() {
        about(21, "with isMinus that below 0");
        brings(wheels(1, 3), x -> x.cut(0, false, 3, 1, 1), 1, 1, "0.333");
        brings(wheels(1, 3), x -> x.cut(0, true, 3, 1, 1), 1, 1, "-0.333");
        brings(wheels(0, 3), x -> x.cut(0, true, 3, 1, 1), 1, 1, "0.000");
        brings(wheels(1, 3), x -> x.cut(0, true, 0, 2, 1), 0, 1, "0");
        brings(wheels(1, 3), x -> x.cut(0, true, 0, 3, 1), 1, 1, "-1");
        brings(wheels(1, 3), x -> x.cut(0, false, 0, 2, 1), 1, 1, "1");
        brings(wheels(1, 3), x -> x.cut(0, false, 0, 3, 1), 0, 1, "0");
        about(21, "ROUNDED: the one that is nearer to the value (never in the middle)");
        for (int i = 4; i <= 6; i++) {
            int way = i;
            brings(wheels(49, 99), x -> x.cut(0, false, 0, way, 1), 0, 1, "0");
            brings(wheels(50, 99), x -> x.cut(0, false, 0, way, 1), 1, 1, "1");
            brings(wheels(49, 99), x -> x.cut(0, true, 0, way, 1), 0, 1, "0");
            brings(wheels(50, 99), x -> x.cut(0, true, 0, way, 1), 1, 1, "-1");
        }
        brings(wheels(1, 7, 98, 99), x -> x.cut(1, false, 3, 0, 1), 1, 1, "0.990");
        brings(wheels(1, 7, 98, 99), x -> x.cut(1, false, 1, 0, 1), 1, 1, "1.0");
        brings(wheels(1, 7, 98, 99), x -> x.cut(1, true, 1, 4, 1), 1, 1, "-1.0");
        about(21, "-9 if it is REFUSED");
        for (int i = 0; i <= 3; i++) {
            int places = i;
            declines(wheels(1, 99), x -> x.cut(0, false, places, 7, 1));
            declines(wheels(1, 99), x -> x.cut(0, true, places, 7, 1));
            declines(wheels(98, 99), x -> x.cut(0, true, places, 7, 1));
        }
        brings(wheels(0, 99), x -> x.cut(0, true, 1, 7, 1), 1, 1, "0.0");
        brings(wheels(0, 99), x -> x.cut(0, false, 0, 7, 1), 0, 1, "0");
        about(21, "The FRACTION of a WHEEL is TOP / BOTTOM, whatever its PLACE is");
        brings(turnedTo(5, 1, 7), x -> x.cut(0, false, 3, 1, 3), 1, 3, "0.142");
    }

    private static void orderAndSame() {
        about(27, "-1 if the first one's value is less, 1 if the other one's is, 0 if they are equal");
        tells(cells("0.999", "1"), x -> x.order(0, 1), -1);
        tells(cells("0.999", "1"), x -> x.order(1, 0), 1);
        tells(cells("1.001", "1"), x -> x.order(0, 1), 1);
        tells(cells("1.000", "1"), x -> x.order(0, 1), 0);
        tells(cells("-0.001", "0"), x -> x.order(0, 1), -1);
        tells(cells("0.000", "0"), x -> x.order(0, 1), 0);
        tells(cells("-999999", "999999"), x -> x.order(0, 1), -1);
        tells(cells("-999999", "999999"), x -> x.order(1, 0), 1);
        tells(cells("999999", "999.999"), x -> x.order(0, 1), 1);
        tells(cells("-999999", "-999.999"), x -> x.order(0, 1), -1);
        tells(cells("-7.5"), x -> x.order(0, 0), 0);
        about(28, "Two are the SAME, if their COUNTS are equal and their PLACES are");
        tells(cells("1.0", "1.0"), x -> x.same(0, 1), true);
        tells(cells("1.0", "1"), x -> x.same(0, 1), false);
        tells(cells("1.0", "1.00"), x -> x.same(0, 1), false);
        tells(cells("1.0", "10"), x -> x.same(0, 1), false);
        tells(cells("1.0", "-1.0"), x -> x.same(0, 1), false);
        tells(cells("0", "0.0"), x -> x.same(0, 1), false);
        tells(cells("0", "0.0"), x -> x.same(1, 1), true);
    }

    private static void actsOnEachCell() {
        for (int i = 0; i < 4; i++) {
            int a = i;
            int b = (i + 1) % 4;
            int c = (i + 3) % 4;
            String[] all = {"-1.50", "2.0", "9", "7"};
            about(2, "each cell, with a, b and c numbered " + a + ", " + b + " and " + c);
            brings(cellsFrom(a, all), x -> x.put(a, 5, 1), 1, a, "0.5");
            brings(cellsFrom(a, all), x -> x.write(a, true, 5, 1, 3), 1, a, "-5.3");
            brings(cellsFrom(a, all), x -> x.copy(a, b), 1, b, "-1.50");
            brings(cellsFrom(a, all), x -> x.negate(a), 1, a, "1.50");
            brings(cellsFrom(a, all), x -> x.size(a), 1, a, "1.50");
            brings(cellsFrom(a, all), x -> x.add(a, b, c), 1, c, "0.50");
            brings(cellsFrom(a, all), x -> x.subtract(a, b, c), 1, c, "-3.50");
            brings(cellsFrom(a, all), x -> x.multiply(a, b, c), 1, c, "-3.000");
            brings(cellsFrom(a, all), x -> x.power(b, 3, c), 1, c, "8.000");
            brings(cellsFrom(a, all), x -> x.divide(a, b, 2, 7, c), 1, c, "-0.75");
            brings(cellsFrom(a, all), x -> x.share(a, 4, c), 1, c, "-0.375");
            brings(cellsFrom(a, all), x -> x.whole(a, 1, c), 1, c, "-1");
            brings(cellsFrom(a, all), x -> x.rest(a, 1, c), 1, c, "-0.50");
            brings(cellsFrom(a, all), x -> x.setPlaces(a, 1, 7), 1, a, "-1.5");
            brings(cellsFrom(a, all), x -> x.strip(a), 1, a, "-1.5");
            brings(cellsFrom(a, all), x -> x.move(a, 1), 1, a, "-0.150");
            brings(cellsFrom(a, all), x -> x.round(a, 1, 6), 1, a, "-2");
            brings(cellsFrom(a, all), x -> x.round(a, 3, 6), 0, a, "-1.50");
            brings(cellsFrom(a, all), x -> x.greater(a, b, c), 1, c, "2.0");
            brings(cellsFrom(a, all), x -> x.lesser(a, b, c), 1, c, "-1.50");
            brings(cellsFrom(a, all), x -> x.cut(2, true, 2, 7, c), 1, c, "0.00");
            about(22, "each cell, with a and b numbered " + a + " and " + b);
            tells(cellsFrom(a, all), x -> x.count(a) + x.count(b), -130);
            tells(cellsFrom(a, all), x -> x.places(a) * 10 + x.places(b), 21);
            tells(cellsFrom(a, all), x -> x.digits(a) * 10 + x.digits(b), 32);
            tells(cellsFrom(a, all), x -> x.sign(a) * 10 + x.sign(b), -9);
            tells(cellsFrom(a, all), x -> x.text(a, 0) + x.text(b, 1), "-1.502.0");
            tells(cellsFrom(a, all), x -> x.order(a, b) * 10 + x.order(b, c), -11);
            tells(cellsFrom(a, all), x -> x.same(a, b) || x.same(b, c) || !x.same(a, a), false);
            tells(cellsFrom(a, all), x -> x.against(1, a) * 10 + x.against(1, b), 9);
        }
    }

    public static void main(String[] args) {
        atFirst();
        digitsOf();
        textOf();
        countPlacesSign();
        put();
        write();
        copyNegateSize();
        add();
        subtract();
        multiply();
        power();
        divide();
        roundedByDivide();
        wholeUnits();
        share();
        whole();
        rest();
        setPlaces();
        strip();
        move();
        round();
        greaterAndLesser();
        cut();
        orderAndSame();
        actsOnEachCell();
        end();
    }
}
