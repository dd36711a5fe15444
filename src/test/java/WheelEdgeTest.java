/**
 * Each sentence of the document that names a boundary case of WHEELS or of the whole, with the last case on its one
 * side and the first on its other. What an argument may be stands in BoundsTest.
 */
public final class WheelEdgeTest extends Check {
    private static final String NINETY_SEVENTH = "0103092783505154639175257731958762886597938144329"
        + "89690721649484536082474226804123711340206185567";

    private WheelEdgeTest() {
    }

    private static boolean isBottom(int number) {
        return number % 2 != 0 && number % 5 != 0;
    }

    // ---- acts

    private static void atFirst() {
        about(1, "At first TOP is 0, BOTTOM 1, PLACE 0");
        for (int i = 0; i < 3; i++) {
            int wheel = i;
            tells(new Ninewheel(), x -> x.spoke(wheel, 0), 0);
            tells(new Ninewheel(), x -> x.spoke(wheel, 1), 1);
            tells(new Ninewheel(), x -> x.spoke(wheel, 2), 0);
            tells(new Ninewheel(), x -> x.spoke(wheel, 3), 0);
            tells(new Ninewheel(), x -> x.spoke(wheel, 4), 1);
            tells(new Ninewheel(), x -> x.number(wheel), "0");
        }
    }

    private static void setWheel() {
        about(29, "A WHEEL gets a TOP and a BOTTOM");
        turns(new Ninewheel(), x -> x.setWheel(0, 0, 1), 1, 0, "0 1 0 0 1");
        turns(new Ninewheel(), x -> x.setWheel(0, 0, 99), 1, 0, "0 99 0 0 1");
        turns(new Ninewheel(), x -> x.setWheel(1, 98, 99), 2, 1, "98 99 0 98 2");
        turns(wheels(1, 7, 1, 7, 1, 7), x -> x.setWheel(2, 0, 1), 1, 2, "0 1 0 0 1");
        about(29, "its PLACE is 0");
        turns(turnedTo(5, 1, 7), x -> x.setWheel(0, 1, 7), 6, 0, "1 7 0 1 6");
        turns(turnedTo(5, 1, 7), x -> x.setWheel(0, 1, 3), 1, 0, "1 3 0 1 1");
        about(29, "LENGTH: the least number of places, 1 or more, behind which the REST is TOP again (1 to 96)");
        turns(new Ninewheel(), x -> x.setWheel(0, 2, 3), 1, 0, "2 3 0 2 1");
        turns(new Ninewheel(), x -> x.setWheel(0, 22, 33), 1, 0, "22 33 0 22 1");
        turns(new Ninewheel(), x -> x.setWheel(0, 21, 33), 2, 0, "21 33 0 21 2");
        turns(new Ninewheel(), x -> x.setWheel(0, 12, 21), 6, 0, "12 21 0 12 6");
        turns(new Ninewheel(), x -> x.setWheel(0, 14, 21), 1, 0, "14 21 0 14 1");
        turns(new Ninewheel(), x -> x.setWheel(0, 1, 97), 96, 0, "1 97 0 1 96");
        turns(new Ninewheel(), x -> x.setWheel(0, 96, 97), 96, 0, "96 97 0 96 96");
        turns(new Ninewheel(), x -> x.setWheel(0, 0, 97), 1, 0, "0 97 0 0 1");
    }

    private static void step() {
        about(30, "The PLACE of a WHEEL goes on by 1 (from LENGTH - 1 it comes to 0)");
        turns(wheels(1, 7), x -> x.step(0), 1, 0, "1 7 1 3 6");
        turns(turnedTo(4, 1, 7), x -> x.step(0), 5, 0, "1 7 5 5 6");
        turns(turnedTo(5, 1, 7), x -> x.step(0), 7, 0, "1 7 0 1 6");
        turns(turnedTo(94, 1, 97), x -> x.step(0), 6, 0, "1 97 95 68 96");
        turns(turnedTo(95, 1, 97), x -> x.step(0), 7, 0, "1 97 0 1 96");
        turns(wheels(10, 11), x -> x.step(0), 9, 0, "10 11 1 1 2");
        turns(turnedTo(1, 10, 11), x -> x.step(0), 0, 0, "10 11 0 10 2");
        about(30, "with a LENGTH of 1 it comes from 0 to 0");
        turns(new Ninewheel(), x -> x.step(2), 0, 2, "0 1 0 0 1");
        turns(wheels(2, 3), x -> x.step(0), 6, 0, "2 3 0 2 1");
        turns(wheels(1, 7, 88, 99), x -> x.step(1), 8, 1, "88 99 0 88 1");
        about(30, "round and round");
        Ninewheel x = wheels(1, 97);
        StringBuilder digits = new StringBuilder();
        for (int step = 0; step < 192; step++) {
            is(x.spoke(0, 2), step % 96);
            digits.append(x.step(0));
        }
        is(digits.toString(), NINETY_SEVENTH + NINETY_SEVENTH);
        is(x.house(1), 193);
    }

    private static void turn() {
        about(31, "The PLACE of a WHEEL goes on by 1, many times");
        turns(wheels(1, 7), x -> x.turn(0, 0), 1, 0, "1 7 0 1 6");
        turns(wheels(1, 7), x -> x.turn(0, 1), 3, 0, "1 7 1 3 6");
        turns(wheels(1, 7), x -> x.turn(0, 5), 5, 0, "1 7 5 5 6");
        turns(wheels(1, 7), x -> x.turn(0, 6), 1, 0, "1 7 0 1 6");
        turns(wheels(1, 7), x -> x.turn(0, 7), 3, 0, "1 7 1 3 6");
        turns(wheels(1, 7), x -> x.turn(0, 200), 2, 0, "1 7 2 2 6");
        turns(turnedTo(5, 1, 7), x -> x.turn(0, 0), 5, 0, "1 7 5 5 6");
        turns(turnedTo(5, 1, 7), x -> x.turn(0, 1), 1, 0, "1 7 0 1 6");
        turns(turnedTo(5, 1, 7), x -> x.turn(0, 200), 3, 0, "1 7 1 3 6");
        turns(turnedTo(95, 1, 97), x -> x.turn(0, 1), 1, 0, "1 97 0 1 96");
        turns(turnedTo(95, 1, 97), x -> x.turn(0, 96), 68, 0, "1 97 95 68 96");
        turns(turnedTo(95, 1, 97), x -> x.turn(0, 200), 76, 0, "1 97 7 76 96");
        turns(new Ninewheel(), x -> x.turn(2, 200), 0, 2, "0 1 0 0 1");
        turns(wheels(2, 3), x -> x.turn(0, 199), 2, 0, "2 3 0 2 1");
    }

    private static void times() {
        about(32, "as TOP what by * the TOP of wheel leaves when BOTTOM divides it");
        turns(wheels(3, 7), x -> x.times(0, 0, 1), 0, 1, "0 7 0 0 1");
        turns(wheels(3, 7), x -> x.times(0, 1, 1), 3, 1, "3 7 0 3 6");
        turns(wheels(3, 7), x -> x.times(0, 2, 1), 6, 1, "6 7 0 6 6");
        turns(wheels(3, 7), x -> x.times(0, 7, 1), 0, 1, "0 7 0 0 1");
        turns(wheels(3, 7), x -> x.times(0, 99, 1), 3, 1, "3 7 0 3 6");
        turns(wheels(98, 99), x -> x.times(0, 99, 2), 0, 2, "0 99 0 0 1");
        turns(wheels(98, 99), x -> x.times(0, 98, 2), 1, 2, "1 99 0 1 2");
        turns(wheels(0, 1), x -> x.times(0, 99, 1), 0, 1, "0 1 0 0 1");
        turns(wheels(4, 21, 1, 97), x -> x.times(0, 7, 1), 7, 1, "7 21 0 7 1");
        turns(wheels(1, 97, 4, 21), x -> x.times(1, 3, 0), 12, 0, "12 21 0 12 6");
        about(32, "and PLACE 0 (the PLACE of the WHEEL that is taken stays)");
        turns(turnedTo(3, 1, 7, 1, 3), x -> x.times(0, 2, 1), 2, 1, "2 7 0 2 6");
        turns(turnedTo(3, 1, 7, 1, 3), x -> x.times(1, 2, 0), 2, 0, "2 3 0 2 1");
        about(32, "it is made from what was there");
        turns(turnedTo(3, 1, 7), x -> x.times(0, 10, 0), 3, 0, "3 7 0 3 6");
        turns(turnedTo(3, 1, 7), x -> x.times(0, 1, 0), 1, 0, "1 7 0 1 6");
        turns(turnedTo(3, 4, 21), x -> x.times(0, 7, 0), 7, 0, "7 21 0 7 1");
        turns(turnedTo(3, 4, 21), x -> x.times(0, 0, 0), 0, 0, "0 21 0 0 1");
    }

    // ---- what is asked

    private static void spoke() {
        about(33, "0 its TOP, 1 its BOTTOM, 2 its PLACE, 3 the REST of its PLACE, 4 its LENGTH");
        int[] due = {3, 13, 5, 12, 6};
        int[] atLast = {96, 97, 95, 29, 96};
        for (int i = 0; i < 5; i++) {
            int what = i;
            tells(turnedTo(5, 3, 13), x -> x.spoke(0, what), due[what]);
            tells(turnedTo(95, 96, 97), x -> x.spoke(0, what), atLast[what]);
        }
        about(33, "PLACE is 0 to LENGTH - 1");
        for (int many = 0; many <= 200; many++) {
            tells(turnedTo(many, 1, 7), x -> x.spoke(0, 2) * 10 + x.spoke(0, 4), many % 6 * 10 + 6);
        }
    }

    private static void lowest() {
        about(34, "The LOWEST bottom (1 if TOP is 0)");
        tells(new Ninewheel(), x -> x.lowest(0), 1);
        tells(wheels(0, 99), x -> x.lowest(0), 1);
        about(34, "the least number from 1 on that, times TOP, is a multiple of BOTTOM");
        tells(wheels(1, 99), x -> x.lowest(0), 99);
        tells(wheels(98, 99), x -> x.lowest(0), 99);
        tells(wheels(33, 99), x -> x.lowest(0), 3);
        tells(wheels(66, 99), x -> x.lowest(0), 3);
        tells(wheels(96, 99), x -> x.lowest(0), 33);
        tells(wheels(1, 3), x -> x.lowest(0), 3);
        for (int bottom = 1; bottom <= 99; bottom++) {
            for (int top = 0; top < bottom && isBottom(bottom); top++) {
                int least = 1;
                while (least * top % bottom != 0) {
                    least++;
                }
                is(wheels(top, bottom).lowest(0), least);
            }
        }
    }

    private static void tens() {
        about(35, "the least L, 1 or more, for which 10^L - 1 is a multiple of it (by 1: 1)");
        int[] bys = {1, 3, 7, 9, 11, 13, 17, 19, 21, 23, 27, 29, 31, 33, 37, 39, 41, 43, 47, 49, 51, 53, 57, 59, 61, 63,
            67, 69, 71, 73, 77, 79, 81, 83, 87, 89, 91, 93, 97, 99};
        int[] due = {1, 1, 6, 1, 2, 6, 16, 18, 6, 22, 3, 28, 15, 2, 3, 6, 5, 21, 46, 42, 16, 13, 18, 58, 60, 6, 33, 22,
            35, 8, 6, 13, 9, 41, 28, 44, 6, 15, 96, 2};
        for (int i = 0; i < bys.length; i++) {
            int by = bys[i];
            tells(new Ninewheel(), x -> x.tens(by), due[i]);
            tells(wheels(1, 7, 98, 99, 1, 97), x -> x.tens(by), due[i]);
        }
        is(bys.length, due.length);
    }

    private static void restAt() {
        about(36, "The REST of place 0 is TOP");
        tells(wheels(0, 1), x -> x.restAt(0, 0), 0);
        tells(wheels(98, 99), x -> x.restAt(0, 0), 98);
        about(36, "a place, also beyond LENGTH");
        int[] rests = {1, 3, 2, 6, 4, 5};
        for (int i = 0; i <= 200; i++) {
            int place = i;
            tells(wheels(1, 7), x -> x.restAt(0, place), rests[place % 6]);
            tells(turnedTo(5, 1, 7), x -> x.restAt(0, place), rests[place % 6]);
            tells(wheels(2, 3), x -> x.restAt(0, place), 2);
            tells(new Ninewheel(), x -> x.restAt(2, place), 0);
        }
        tells(wheels(1, 97), x -> x.restAt(0, 95), 68);
        tells(wheels(1, 97), x -> x.restAt(0, 96), 1);
        tells(wheels(1, 97), x -> x.restAt(0, 97), 10);
        tells(wheels(1, 97), x -> x.restAt(0, 192), 1);
        tells(wheels(1, 97), x -> x.restAt(0, 200), 81);
    }

    private static void digitsFrom() {
        about(37, "the DIGITS of that place and of those behind it, many in all");
        tells(wheels(1, 97), x -> x.digitsFrom(0, 0, 1), "0");
        tells(wheels(1, 97), x -> x.digitsFrom(0, 0, 16), "0103092783505154");
        tells(wheels(10, 11), x -> x.digitsFrom(0, 0, 16), "9090909090909090");
        tells(wheels(10, 11), x -> x.digitsFrom(0, 1, 15), "090909090909090");
        tells(wheels(2, 3), x -> x.digitsFrom(0, 200, 1), "6");
        tells(new Ninewheel(), x -> x.digitsFrom(2, 200, 16), "0000000000000000");
        about(37, "a place, also beyond LENGTH");
        String round = NINETY_SEVENTH + NINETY_SEVENTH + NINETY_SEVENTH;
        for (int i = 0; i <= 200; i++) {
            int place = i;
            tells(wheels(1, 97), x -> x.digitsFrom(0, place, 1), round.substring(place, place + 1));
            tells(turnedTo(95, 1, 97), x -> x.digitsFrom(0, place, 16), round.substring(place, place + 16));
        }
        for (int i = 1; i <= 16; i++) {
            int many = i;
            tells(turnedTo(2, 1, 7), x -> x.digitsFrom(0, 5, many), "7142857142857142857".substring(0, many));
        }
    }

    private static void cutText() {
        about(38, "the TEXT of the FRACTION, with up to 16 PLACES");
        tells(wheels(1, 99), x -> x.cutText(0, false, 16, 1), "0.0101010101010101");
        tells(wheels(1, 99), x -> x.cutText(0, false, 16, 0), "0.0101010101010102");
        tells(wheels(98, 99), x -> x.cutText(0, false, 16, 0), "0.9898989898989899");
        tells(wheels(98, 99), x -> x.cutText(0, true, 16, 3), "-0.9898989898989899");
        tells(wheels(98, 99), x -> x.cutText(0, true, 16, 2), "-0.9898989898989898");
        tells(wheels(1, 97), x -> x.cutText(0, true, 15, 4), "-0.010309278350515");
        tells(wheels(1, 97), x -> x.cutText(0, true, 16, 4), "-0.0103092783505155");
        tells(wheels(0, 97), x -> x.cutText(0, true, 16, 0), "0.0000000000000000");
        tells(wheels(0, 97), x -> x.cutText(0, true, 0, 0), "0");
        tells(turnedTo(5, 1, 7), x -> x.cutText(0, false, 3, 1), "0.142");
        about(38, "by each WAY, with 0 PLACES and no point");
        String[] above = {"1", "0", "1", "0"};
        String[] below = {"-1", "0", "0", "-1"};
        for (int i = 0; i <= 3; i++) {
            int way = i;
            tells(wheels(1, 99), x -> x.cutText(0, false, 0, way), above[way]);
            tells(wheels(98, 99), x -> x.cutText(0, true, 0, way), below[way]);
        }
        for (int i = 4; i <= 6; i++) {
            int way = i;
            tells(wheels(49, 99), x -> x.cutText(0, false, 0, way), "0");
            tells(wheels(50, 99), x -> x.cutText(0, false, 0, way), "1");
            tells(wheels(49, 99), x -> x.cutText(0, true, 0, way), "0");
            tells(wheels(50, 99), x -> x.cutText(0, true, 0, way), "-1");
        }
        tells(wheels(98, 99), x -> x.cutText(0, false, 1, 6), "1.0");
        about(38, "\"-9\" if it is REFUSED");
        for (int i = 0; i <= 16; i++) {
            int places = i;
            tells(wheels(1, 99), x -> x.cutText(0, false, places, 7), "-9");
            tells(wheels(98, 99), x -> x.cutText(0, true, places, 7), "-9");
            String zeros = places == 0 ? "0" : "0." + "0".repeat(places);
            tells(wheels(0, 99), x -> x.cutText(0, true, places, 7), zeros);
            tells(new Ninewheel(), x -> x.cutText(2, false, places, 7), zeros);
        }
    }

    private static void numberAndProduct() {
        about(39, "its DIGITS of the places 0 to LENGTH - 1, one behind the other");
        tells(new Ninewheel(), x -> x.number(0), "0");
        tells(wheels(0, 99), x -> x.number(0), "0");
        tells(wheels(2, 3), x -> x.number(0), "6");
        tells(wheels(1, 99), x -> x.number(0), "01");
        tells(wheels(98, 99), x -> x.number(0), "98");
        tells(wheels(1, 97), x -> x.number(0), NINETY_SEVENTH);
        tells(turnedTo(3, 1, 7), x -> x.number(0), "142857");
        about(40, "times BOTTOM, without zeros ahead (\"0\" if it is 0)");
        tells(new Ninewheel(), x -> x.product(0), "0");
        tells(wheels(0, 99), x -> x.product(0), "0");
        tells(wheels(2, 3), x -> x.product(0), "18");
        tells(wheels(1, 99), x -> x.product(0), "99");
        tells(wheels(98, 99), x -> x.product(0), "9702");
        tells(wheels(1, 97), x -> x.product(0), "9".repeat(96));
        tells(wheels(96, 97), x -> x.product(0), "95" + "9".repeat(94) + "04");
        tells(turnedTo(3, 1, 7), x -> x.product(0), "999999");
        about(40, "one product behind the other");
        Ninewheel x = wheels(96, 97, 2, 3);
        is(x.product(0).length(), 98);
        is(x.product(1), "18");
        is(x.product(2), "0");
    }

    private static void parts() {
        String[] due = {"999", "99", "-9", "-9", "27", "-9", "-9", "-9", "-9", "-9", "-9"};
        int[] times = {1, 1, -9, -9, 3, -9, -9, -9, -9, -9, -9};
        for (int i = 2; i <= 12; i++) {
            int p = i;
            about(41, "p PARTS there are, if p divides LENGTH without a rest");
            tells(wheels(1, 7), x -> x.partSum(0, p), due[p - 2]);
            tells(turnedTo(3, 1, 7), x -> x.partSum(0, p), due[p - 2]);
            about(41, "\"-9\" if there are none: LENGTH 1 has none");
            tells(new Ninewheel(), x -> x.partSum(1, p), "-9");
            tells(wheels(2, 3), x -> x.partSum(0, p), "-9");
            about(42, "-9 if there are none");
            tells(wheels(1, 7), x -> x.nines(0, p), times[p - 2]);
            tells(turnedTo(3, 1, 7), x -> x.nines(0, p), times[p - 2]);
            tells(new Ninewheel(), x -> x.nines(1, p), -9);
            tells(wheels(2, 3), x -> x.nines(0, p), -9);
        }
        about(41, "as many PARTS as LENGTH, and one more");
        tells(wheels(1, 11), x -> x.partSum(0, 2), "9");
        tells(wheels(1, 11), x -> x.partSum(0, 3), "-9");
        tells(wheels(1, 37), x -> x.partSum(0, 2), "-9");
        tells(wheels(1, 37), x -> x.partSum(0, 3), "9");
        tells(wheels(1, 37), x -> x.partSum(0, 4), "-9");
        about(41, "the SUM of its PARTS, without zeros ahead");
        tells(wheels(1, 99), x -> x.partSum(0, 2), "1");
        tells(wheels(98, 99), x -> x.partSum(0, 2), "17");
        tells(wheels(4, 21), x -> x.partSum(0, 2), "666");
        tells(wheels(1, 97), x -> x.partSum(0, 2), "9".repeat(48));
        tells(wheels(1, 97), x -> x.partSum(0, 12), "599999994");
        tells(wheels(1, 97), x -> x.partSum(0, 5), "-9");
        tells(wheels(1, 97), x -> x.partSum(0, 11), "-9");
    }

    private static void nines() {
        about(42, "how many times the number of nines alone, as long as a PART, the SUM is");
        tells(wheels(1, 11), x -> x.nines(0, 2), 1);
        tells(wheels(1, 37), x -> x.nines(0, 3), 1);
        tells(wheels(36, 37), x -> x.nines(0, 3), 2);
        tells(wheels(1, 97), x -> x.nines(0, 2), 1);
        tells(wheels(1, 97), x -> x.nines(0, 12), 6);
        about(42, "-1 if it is no multiple of that");
        tells(wheels(1, 99), x -> x.nines(0, 2), -1);
        tells(wheels(98, 99), x -> x.nines(0, 2), -1);
        tells(wheels(4, 21), x -> x.nines(0, 2), -1);
        tells(wheels(4, 21), x -> x.nines(0, 3), 1);
    }

    private static void placeOf() {
        about(43, "the least place of the first one from which on its DIGITS are those of the other one");
        tells(wheels(1, 7, 1, 7), x -> x.placeOf(0, 1), 0);
        tells(wheels(1, 7), x -> x.placeOf(0, 0), 0);
        tells(wheels(1, 7, 5, 7), x -> x.placeOf(0, 1), 5);
        tells(wheels(1, 7, 5, 7), x -> x.placeOf(1, 0), 1);
        tells(wheels(1, 97, 68, 97), x -> x.placeOf(0, 1), 95);
        tells(wheels(1, 97, 68, 97), x -> x.placeOf(1, 0), 1);
        tells(wheels(2, 3, 66, 99), x -> x.placeOf(0, 1), 0);
        tells(wheels(1, 7, 33, 77), x -> x.placeOf(0, 1), 1);
        tells(wheels(0, 1, 0, 99), x -> x.placeOf(0, 1), 0);
        about(43, "from its place 0 on, whatever the PLACES are");
        tells(turnedTo(5, 1, 7, 5, 7), x -> x.placeOf(0, 1), 5);
        tells(turnedTo(5, 1, 7, 5, 7), x -> x.placeOf(1, 0), 1);
        about(43, "-1 if there is none");
        tells(wheels(1, 13, 2, 13), x -> x.placeOf(0, 1), -1);
        tells(wheels(1, 7, 0, 7), x -> x.placeOf(0, 1), -1);
        tells(wheels(0, 7, 1, 7), x -> x.placeOf(0, 1), -1);
        tells(wheels(1, 3, 2, 3), x -> x.placeOf(0, 1), -1);
        tells(wheels(1, 97, 1, 99), x -> x.placeOf(0, 1), -1);
        // The first digits of both are 01; only behind them do they part.
        tells(wheels(1, 97, 1, 99), x -> x.placeOf(1, 0), -1);
    }

    private static void orders() {
        about(44, "-1 if the first one's FRACTION is less, 1 if the other one's is, 0 if they are equal");
        tells(wheels(1, 99, 1, 97), x -> x.wheelOrder(0, 1), -1);
        tells(wheels(1, 99, 1, 97), x -> x.wheelOrder(1, 0), 1);
        tells(wheels(98, 99, 96, 97), x -> x.wheelOrder(0, 1), 1);
        tells(wheels(98, 99, 96, 97), x -> x.wheelOrder(1, 0), -1);
        tells(wheels(1, 3, 33, 99), x -> x.wheelOrder(0, 1), 0);
        tells(wheels(0, 1, 0, 99), x -> x.wheelOrder(0, 1), 0);
        tells(wheels(1, 99, 0, 99), x -> x.wheelOrder(0, 1), 1);
        tells(turnedTo(1, 1, 7, 1, 7), x -> x.wheelOrder(0, 1), 0);
        tells(turnedTo(1, 1, 7), x -> x.wheelOrder(0, 0), 0);
        about(45, "-1 if the FRACTION is less than the value of the DECIMAL, 1 if it is greater, 0 if they are equal");
        String[] values = {"0", "0.000", "0.001", "-0.001", "0.142", "0.143", "1", "-1", "999999", "-999999"};
        int[] ofNought = {0, 0, -1, 1, -1, -1, -1, 1, -1, 1};
        int[] ofSeventh = {1, 1, 1, 1, 1, -1, -1, 1, -1, 1};
        int[] ofMost = {1, 1, 1, 1, 1, 1, -1, 1, -1, 1};
        for (int i = 0; i < values.length; i++) {
            String value = values[i];
            tells(againstOne(0, 1, value), x -> x.against(2, 3), ofNought[i]);
            tells(againstOne(1, 7, value), x -> x.against(2, 3), ofSeventh[i]);
            tells(againstOne(98, 99, value), x -> x.against(2, 3), ofMost[i]);
        }
        tells(againstOne(98, 99, "0.989"), x -> x.against(2, 3), 1);
        tells(againstOne(98, 99, "0.990"), x -> x.against(2, 3), -1);
    }

    private static Ninewheel againstOne(int top, int bottom, String value) {
        Ninewheel x = cells("5", "5", "5", value);
        x.setWheel(2, top, bottom);
        x.step(2);
        return x;
    }

    private static void eachWheel() {
        for (int i = 0; i < 3; i++) {
            int a = i;
            int b = (i + 1) % 3;
            int[] all = {0, 1, 0, 1, 0, 1};
            all[2 * a] = 4;
            all[2 * a + 1] = 21;
            all[2 * b] = 12;
            all[2 * b + 1] = 63;
            about(29, "each WHEEL, with a numbered " + a + " and b numbered " + b);
            turns(wheels(all), x -> x.setWheel(a, 3, 7), 6, a, "3 7 0 3 6");
            turns(wheels(all), x -> x.step(a), 1, a, "4 21 1 19 6");
            turns(wheels(all), x -> x.turn(a, 5), 13, a, "4 21 5 13 6");
            turns(wheels(all), x -> x.times(a, 5, b), 20, b, "20 21 0 20 6");
            turns(wheels(all), x -> x.times(b, 2, a), 24, a, "24 63 0 24 6");
            tells(wheels(all), x -> x.spoke(a, 1) * 100 + x.spoke(b, 1), 2163);
            tells(wheels(all), x -> x.lowest(a) * 100 + x.lowest(b), 2121);
            tells(wheels(all), x -> x.restAt(a, 1) * 100 + x.restAt(b, 1), 1957);
            tells(wheels(all), x -> x.digitsFrom(a, 1, 6) + " " + x.digitsFrom(b, 5, 2), "904761 61");
            tells(wheels(all), x -> x.cutText(a, false, 3, 1) + " " + x.cutText(b, true, 2, 0), "0.190 -0.20");
            tells(wheels(all), x -> x.number(a) + " " + x.number(b), "190476 190476");
            tells(wheels(all), x -> x.product(a) + " " + x.product(b), "3999996 11999988");
            tells(wheels(all), x -> x.partSum(a, 2) + " " + x.partSum(b, 3), "666 99");
            tells(wheels(all), x -> x.nines(a, 3) * 10 + x.nines(b, 2), 9);
            tells(wheels(all), x -> x.placeOf(a, b) * 10 + x.placeOf(b, 3 - a - b), -1);
            tells(wheels(all), x -> x.wheelOrder(a, b) * 10 + x.wheelOrder(b, 3 - a - b), 1);
        }
    }

    // ---- the whole

    private static String house(Ninewheel x) {
        return x.house(0) + " " + x.house(1) + " " + x.house(2) + " " + x.house(3);
    }

    private static void houseOfActs() {
        about(46, "how many acts were done, also if all stays as it was");
        Ninewheel x = new Ninewheel();
        is(house(x), "0 0 0 0");
        x.put(0, 0, 0);
        x.write(0, false, 0, 0, 0);
        x.copy(0, 0);
        x.negate(0);
        x.size(0);
        x.add(0, 0, 0);
        x.subtract(0, 0, 0);
        x.multiply(0, 0, 0);
        x.power(0, 1, 0);
        is(house(x), "9 0 0 0");
        x.divide(0, 1, 0, 0, 0);
        is(house(x), "9 0 1 0");
        x.share(0, 1, 0);
        x.whole(0, 1, 0);
        x.rest(0, 1, 0);
        x.setPlaces(0, 0, 7);
        x.strip(0);
        x.move(0, 0);
        x.round(0, 1, 7);
        x.greater(0, 0, 0);
        x.lesser(0, 0, 0);
        x.cut(0, false, 0, 7, 0);
        is(house(x), "19 0 1 0");
        x.setWheel(0, 0, 1);
        x.step(0);
        x.turn(0, 0);
        x.times(0, 0, 0);
        is(house(x), "19 4 1 0");
        x.turn(0, 200);
        is(house(x), "19 5 1 0");
        is(x.knock(), 1);
        is(house(x), "19 5 1 1");
    }

    private static void houseOfAsked() {
        about(46, "how often an act told -9 (asked ones do not count)");
        tells(wheels(1, 7), x -> x.cutText(0, false, 0, 7), "-9");
        tells(wheels(1, 7), x -> x.partSum(0, 4), "-9");
        tells(wheels(1, 7), x -> x.nines(0, 4), -9);
        tells(cells("-9"), x -> x.count(0), -9);
        about(46, "not one that told -9: of each act that can");
        declines(cells("1"), x -> x.write(0, false, 1000, 3, 0));
        declines(cells("999999"), x -> x.add(0, 0, 0));
        declines(cells("999999", "-1"), x -> x.subtract(0, 1, 0));
        declines(cells("999999"), x -> x.multiply(0, 0, 0));
        declines(cells("999999"), x -> x.power(0, 2, 0));
        declines(cells("999999"), x -> x.divide(0, 1, 0, 0, 0));
        declines(cells("999999"), x -> x.share(0, 0, 0));
        declines(cells("999999"), x -> x.whole(0, 0, 0));
        declines(cells("999999"), x -> x.rest(0, 0, 0));
        declines(cells("999999"), x -> x.setPlaces(0, 1, 0));
        declines(cells("999999"), x -> x.move(0, -1));
        declines(cells("999999"), x -> x.round(0, 1, 0));
        declines(wheels(1, 7), x -> x.cut(0, false, 0, 7, 0));
        about(46, "one -9 behind the other");
        Ninewheel x = cells("999999");
        for (int told = 1; told <= 20; told++) {
            is(x.add(0, 0, 1), -9);
            is(house(x), "1 0 " + told + " 0");
        }
    }

    private static void knock() {
        about(47, "Returns how often one knocked, with this");
        Ninewheel x = wheels(1, 7);
        for (int often = 1; often <= 100; often++) {
            is(x.knock(), often);
            is(x.house(3), often);
        }
        is(house(x), "0 1 0 100");
        about(47, "Knocks (no act)");
        String[] before = state(new Ninewheel());
        Ninewheel knocked = new Ninewheel();
        knocked.knock();
        before[before.length - 1] = "1";
        is(String.join(" | ", state(knocked)), String.join(" | ", before));
    }

    private static void soundAtTheEdges() {
        about(48, "Returns whether all of this is so");
        tells(new Ninewheel(), Ninewheel::isSound, true);
        tells(cells("999999", "-999999", "999.999", "-999.999"), Ninewheel::isSound, true);
        tells(cells("1", "1.0", "1.00", "1.000"), Ninewheel::isSound, true);
        tells(cells("0", "0.0", "0.00", "0.000"), Ninewheel::isSound, true);
        tells(cells("0.001", "-0.001", "0.001"), Ninewheel::isSound, true);
        tells(turnedTo(95, 96, 97, 98, 99, 0, 99), Ninewheel::isSound, true);
        tells(wheels(22, 33, 14, 21, 66, 99), Ninewheel::isSound, true);
    }

    private static void digest() {
        about(49, "A checksum d: it starts with 7944");
        Ninewheel[] all = {new Ninewheel(), cells("999999", "-999999", "999.999", "-999.999"),
            cells("1", "1.0", "1.0", "-0.001"), wheels(1, 7, 4, 21, 98, 99), turnedTo(95, 96, 97, 1, 3, 33, 99)};
        for (Ninewheel x : all) {
            tells(x, Ninewheel::digest, checksum(x));
        }
        about(49, "for each v in this sequence: house() of 0 to 3");
        Ninewheel x = cells("999999");
        x.add(0, 0, 0);
        x.knock();
        x.step(1);
        tells(x, Ninewheel::digest, checksum(x));
        about(49, "the digest of a new object, written out");
        long d = 7944;
        int[] ofNew = {0, 0, 1, 0, 0, 0, 1, 0, 0, 0, 1, 0, 0, 0, 1, 0,
            0, 1, 0, 1, 0, 1, 0, 1, 0, 1, 0, 1,
            0, 1, 0, 0, 1, -9, -9, 0, 0, 0, 0, 0, 1, 0, 0, 1, -9, -9, 0, 0, 0, 0, 0, 1, 0, 0, 1, -9, -9, 0, 0, 0, 0,
            0, 0, 0, 0, 0, 0, 0, 1};
        for (int v : ofNew) {
            d = d * 31 + v;
        }
        is(new Ninewheel().digest(), d);
    }

    public static void main(String[] args) {
        atFirst();
        setWheel();
        step();
        turn();
        times();
        spoke();
        lowest();
        tens();
        restAt();
        digitsFrom();
        cutText();
        numberAndProduct();
        parts();
        nines();
        placeOf();
        orders();
        eachWheel();
        houseOfActs();
        houseOfAsked();
        knock();
        soundAtTheEdges();
        digest();
        end();
    }
}
