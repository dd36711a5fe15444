import java.lang.reflect.InvocationTargetException;
import java.lang.reflect.Method;
import java.util.ArrayList;
import java.util.Arrays;
import java.util.List;

/**
 * Each argument of each method at the last value in its bounds and at the first one beyond them, on both sides; and
 * all sets of wrong arguments at once. Of several exceptions the one that is named first is due, ahead of any -9, and
 * nothing may have changed.
 */
public final class BoundsTest extends Check {
    /**
     * The promise, the method, and of each argument its least and its most; cells and wheels are named. One on which
     * the bounds of another argument hang is said as that value alone, as =3. tens() stands in everyBottom().
     */
    private static final String[] FACE = {
        "2 put cell -999999..999999 0..3",
        "3 write cell bool 0..999999 =0 0..0",
        "3 write cell bool 0..999999 =1 0..9",
        "3 write cell bool 0..999999 =2 0..99",
        "3 write cell bool 0..999999 =3 0..999",
        "4 copy cell cell",
        "5 negate cell",
        "6 size cell",
        "7 add cell cell cell",
        "8 subtract cell cell cell",
        "9 multiply cell cell cell",
        "10 power cell 0..3 cell",
        "11 divide cell cell 0..3 0..7 cell",
        "12 share cell -99..99 cell",
        "13 whole cell -99..99 cell",
        "14 rest cell -99..99 cell",
        "15 setPlaces cell 0..3 0..7",
        "16 strip cell",
        "17 move cell -3..3",
        "18 round cell 1..6 0..7",
        "19 greater cell cell cell",
        "20 lesser cell cell cell",
        "21 cut wheel bool 0..3 0..7 cell",
        "22 count cell",
        "23 places cell",
        "24 digits cell",
        "25 sign cell",
        "26 text cell 0..1",
        "27 order cell cell",
        "28 same cell cell",
        "29 setWheel wheel 0..0 =1",
        "29 setWheel wheel 0..2 =3",
        "29 setWheel wheel 0..96 =97",
        "29 setWheel wheel 0..98 =99",
        "30 step wheel",
        "31 turn wheel 0..200",
        "32 times wheel 0..99 wheel",
        "33 spoke wheel 0..4",
        "34 lowest wheel",
        "36 restAt wheel 0..200",
        "37 digitsFrom wheel 0..200 1..16",
        "38 cutText wheel bool 0..16 0..7",
        "39 number wheel",
        "40 product wheel",
        "41 partSum wheel 2..12",
        "42 nines wheel 2..12",
        "43 placeOf wheel wheel",
        "44 wheelOrder wheel wheel",
        "45 against wheel cell",
        "46 house 0..3",
    };

    /** What can be said to an argument, and which of it is wrong. */
    private static final class Parameter {
        private final boolean isTruth;
        private final boolean isNumber;
        private final boolean isFixed;
        private final int least;
        private final int most;

        private Parameter(String form) {
            isTruth = form.equals("bool");
            isNumber = form.equals("cell") || form.equals("wheel");
            isFixed = form.startsWith("=");
            int dots = form.indexOf("..");
            if (isTruth || isNumber) {
                least = 0;
                most = isTruth ? 1 : form.equals("cell") ? 3 : 2;
            } else {
                least = Integer.parseInt(isFixed ? form.substring(1) : form.substring(0, dots));
                most = isFixed ? least : Integer.parseInt(form.substring(dots + 2));
            }
        }

        private boolean isWrong(int value) {
            return value < least || value > most;
        }

        private Object said(int value) {
            return isTruth ? (Object) (value == 1) : (Object) value;
        }

        /** The bounds, one that lies between them, and those that lie beyond. */
        private int[] tried() {
            if (isTruth || isFixed) {
                return isTruth ? new int[] {0, 1} : new int[] {least};
            }
            int between = least + (most - least) / 2;
            return new int[] {least, between, most, least - 1, most + 1, Integer.MIN_VALUE, Integer.MAX_VALUE};
        }
    }

    private static Method find(String name) {
        for (Method method : Ninewheel.class.getMethods()) {
            if (method.getName().equals(name)) {
                return method;
            }
        }
        throw new IllegalStateException(name);
    }

    /** Objects in which acts are done, and objects in which many of them tell -9. */
    private static Ninewheel made(int kind) {
        Ninewheel x = new Ninewheel();
        if (kind == 0) {
            return x;
        }
        for (int cell = 0; cell < 4; cell++) {
            x.put(cell, kind == 1 ? 11 * cell - 15 : 999999, kind == 1 ? cell : 0);
        }
        x.setWheel(0, 1, 7);
        x.setWheel(1, 4, 21);
        x.setWheel(2, 98, 99);
        x.turn(0, 3);
        return x;
    }

    private static String whatIsDue(List<Parameter> parameters, int[] values) {
        String due = "";
        for (int i = 0; i < values.length; i++) {
            if (parameters.get(i).isWrong(values[i])) {
                due = parameters.get(i).isNumber || due.equals(BOUNDS) ? BOUNDS : ILLEGAL;
            }
        }
        return due;
    }

    private static Object called(Ninewheel x, Method method, Object[] arguments) {
        try {
            return method.invoke(x, arguments);
        } catch (InvocationTargetException thrown) {
            throw (RuntimeException) thrown.getCause();
        } catch (IllegalAccessException impossible) {
            throw new IllegalStateException(impossible);
        }
    }

    private static void hold(Method method, List<Parameter> parameters, int[] values, int kind) {
        Object[] arguments = new Object[values.length];
        for (int i = 0; i < values.length; i++) {
            arguments[i] = parameters.get(i).said(values[i]);
        }
        String due = whatIsDue(parameters, values);
        if (!due.isEmpty()) {
            fails(due, made(kind), x -> called(x, method, arguments));
            return;
        }
        String got = "an answer";
        try {
            called(made(kind), method, arguments);
        } catch (RuntimeException thrown) {
            got = thrown.getClass().getSimpleName();
        }
        due(got.equals("an answer"), method.getName() + Arrays.toString(arguments) + " threw " + got);
    }

    /** All that can be said to the arguments from this one on, each with each. */
    private static void combine(Method method, List<Parameter> parameters, int[] values, int at, int kind) {
        if (at == values.length) {
            hold(method, parameters, values, kind);
            return;
        }
        for (int value : parameters.get(at).tried()) {
            values[at] = value;
            combine(method, parameters, values, at + 1, kind);
        }
    }

    private static void holdFace() {
        for (String line : FACE) {
            String[] words = line.split(" ");
            List<Parameter> parameters = new ArrayList<>();
            for (int i = 2; i < words.length; i++) {
                parameters.add(new Parameter(words[i]));
            }
            about(Integer.parseInt(words[0]), "what " + words[1] + "() throws");
            for (int kind = 0; kind < 3; kind++) {
                combine(find(words[1]), parameters, new int[parameters.size()], 0, kind);
            }
        }
    }

    /** PLACES that are wrong, whatever the tail is. */
    private static void writeWithWrongPlaces() {
        about(3, "if whole is not 0 to 999999, or many is not 0 to 3, or tail is not 0 to 10^many - 1");
        for (int many : new int[] {-1, 4, 5, 19, Integer.MIN_VALUE, Integer.MAX_VALUE}) {
            for (int tail : new int[] {-1, 0, 1, 9999, Integer.MAX_VALUE}) {
                fails(ILLEGAL, cells("7"), x -> x.write(0, false, 1, many, tail));
                fails(BOUNDS, cells("7"), x -> x.write(-1, true, 1, many, tail));
                fails(BOUNDS, cells("7"), x -> x.write(4, true, -1, many, tail));
            }
        }
    }

    private static boolean isBottom(int number) {
        return number >= 1 && number <= 99 && number % 2 != 0 && number % 5 != 0;
    }

    /** Every bottom from far below its bounds to far above them, with the first and the last top and those beyond. */
    private static void everyBottom() {
        for (int i = -30; i <= 230; i++) {
            int bottom = i;
            about(29, "if bottom is not 1 to 99, or is divided by 2 or by 5, or top is not 0 to bottom - 1");
            if (isBottom(bottom)) {
                is(new Ninewheel().setWheel(0, 0, bottom), 1);
                is(new Ninewheel().setWheel(2, bottom - 1, bottom) > 0, true);
                fails(ILLEGAL, wheels(1, 7), x -> x.setWheel(0, -1, bottom));
                fails(ILLEGAL, wheels(1, 7), x -> x.setWheel(0, bottom, bottom));
            } else {
                for (int top : new int[] {-1, 0, bottom - 1, bottom, 1}) {
                    fails(ILLEGAL, wheels(1, 7), x -> x.setWheel(0, top, bottom));
                    fails(BOUNDS, wheels(1, 7), x -> x.setWheel(3, top, bottom));
                }
            }
            about(35, "if by is not 1 to 99, or is divided by 2 or 5");
            if (isBottom(bottom)) {
                is(new Ninewheel().tens(bottom) > 0, true);
            } else {
                fails(ILLEGAL, wheels(1, 7), x -> x.tens(bottom));
            }
        }
        about(29, "if bottom is not 1 to 99");
        fails(ILLEGAL, wheels(1, 7), x -> x.setWheel(0, 0, Integer.MIN_VALUE));
        fails(ILLEGAL, wheels(1, 7), x -> x.setWheel(0, 0, Integer.MAX_VALUE));
        fails(ILLEGAL, wheels(1, 7), x -> x.setWheel(0, Integer.MIN_VALUE, 7));
        fails(ILLEGAL, wheels(1, 7), x -> x.setWheel(0, Integer.MAX_VALUE, 7));
    }

    public static void main(String[] args) {
        holdFace();
        writeWithWrongPlaces();
        everyBottom();
        end();
    }
}
