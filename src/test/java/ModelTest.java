import java.lang.reflect.InvocationTargetException;
import java.lang.reflect.Method;
import java.util.ArrayList;
import java.util.Arrays;
import java.util.Comparator;
import java.util.List;
import java.util.Objects;

/** Holds Ninewheel against Model: in long runs of mixed calls, right and wrong ones, and over whole ranges. */
public final class ModelTest {
    private static final int RUNS = 120;
    // With a digest behind each eighth call these stay within the 512 that the document answers for.
    private static final int CALLS = 448;

    /** What each parameter of a method is; Arguments makes values of it. */
    private static final String[] FACE = {
        "put cell count places", "write cell bool written many tail", "copy cell cell", "negate cell", "size cell",
        "add cell cell cell", "subtract cell cell cell", "multiply cell cell cell", "power cell raise cell",
        "divide cell cell places way cell", "share cell by cell", "whole cell by cell", "rest cell by cell",
        "setPlaces cell places way", "strip cell", "move cell left", "round cell digits way",
        "greater cell cell cell", "lesser cell cell cell", "cut wheel bool places way cell",
        "count cell", "places cell", "digits cell", "sign cell", "text cell how", "order cell cell", "same cell cell",
        "setWheel wheel top bottom", "step wheel", "turn wheel far", "times wheel upto99 wheel",
        "spoke wheel what5", "lowest wheel", "tens bottom", "restAt wheel far", "digitsFrom wheel far many16",
        "cutText wheel bool places16 way", "number wheel", "product wheel", "partSum wheel parts",
        "nines wheel parts", "placeOf wheel wheel", "wheelOrder wheel wheel", "against wheel cell",
        "house what4", "knock", "isSound", "digest",
    };

    private static int wrong = 0;
    private static long seed = 7944;

    private ModelTest() {
    }

    /** The next number of a fixed sequence, 0 to bound - 1: each run of this test makes the same calls. */
    private static int next(int bound) {
        seed = seed * 6364136223846793005L + 1442695040888963407L;
        return (int) ((seed >>> 33) % bound);
    }

    private static int oneOf(int... all) {
        return all[next(all.length)];
    }

    private static int within(int least, int most, int wrongOneIn) {
        if (next(wrongOneIn) == 0) {
            return oneOf(least - 1, most + 1, Integer.MIN_VALUE, Integer.MAX_VALUE);
        }
        return next(6) == 0 ? oneOf(least, most) : least + next(most - least + 1);
    }

    private static int count() {
        int most = oneOf(9, 99, 999, 9999, 99999, 999999);
        int count = next(most + 1);
        int shaped = switch (next(6)) {
            case 0 -> count / 10 * 10 + 5;
            case 1 -> count / 100 * 100 + 50;
            case 2 -> count / 100 * 100;
            case 3 -> most;
            default -> count;
        };
        return next(60) == 0 ? within(-999999, 999999, 1) : next(2) == 0 ? shaped : -shaped;
    }

    private static Object argument(String kind) {
        switch (kind) {
            case "bool": return next(2) == 0;
            case "cell": return within(0, 3, 60);
            case "wheel": return within(0, 2, 60);
            case "count": return count();
            case "written": return next(40) == 0 ? within(0, 999999, 1) : Math.abs(count());
            case "many": return within(0, 3, 40);
            case "tail": return oneOf(0, 5, next(10), next(100), next(1000), 9, 10, 99, 100, 999, 1000, -1);
            case "places": return within(0, 3, 40);
            case "places16": return within(0, 16, 40);
            case "way": return within(0, 7, 40);
            case "raise": return within(0, 3, 40);
            case "by": return next(3) == 0 ? oneOf(0, 2, 4, 5, 8, -8, 25, 40, 80, -64, 1, -1, 10) : within(-99, 99, 40);
            case "left": return within(-3, 3, 40);
            case "digits": return within(1, 6, 40);
            case "how": return within(0, 1, 40);
            case "bottom": return next(10) == 0 ? within(1, 99, 3) : oneOf(1, 3, 7, 9, 11, 13, 17, 19, 21, 27, 29, 31,
                33, 37, 39, 41, 47, 49, 51, 53, 57, 59, 61, 63, 67, 69, 71, 73, 77, 79, 81, 83, 87, 89, 91, 93, 97, 99);
            case "top": return oneOf(0, 1, 2, 3, next(8), next(20), next(99), -1);
            case "far": return within(0, 200, 40);
            case "upto99": return within(0, 99, 40);
            case "what5": return within(0, 4, 40);
            case "what4": return within(0, 3, 40);
            case "many16": return within(1, 16, 40);
            case "parts": return within(2, 12, 40);
            default: throw new IllegalStateException(kind);
        }
    }

    private static Method find(Class<?> owner, String name) {
        for (Method method : owner.getDeclaredMethods()) {
            if (method.getName().equals(name) && !java.lang.reflect.Modifier.isPrivate(method.getModifiers())) {
                return method;
            }
        }
        throw new IllegalStateException(name);
    }

    private static Object answer(Method method, Object target, Object[] arguments) {
        try {
            return method.invoke(target, arguments);
        } catch (InvocationTargetException thrown) {
            return "throws." + thrown.getCause().getClass().getName();
        } catch (IllegalAccessException impossible) {
            throw new IllegalStateException(impossible);
        }
    }

    private static void due(List<String> calls, Object got, Object want) {
        if (!Objects.equals(got, want)) {
            wrong++;
            if (wrong <= 20) {
                int from = Math.max(0, calls.size() - 12);
                System.out.println(calls.subList(from, calls.size()) + " answered " + got + ", due is " + want);
            }
        }
    }

    private static void run(int number) {
        Ninewheel got = new Ninewheel();
        Model want = new Model();
        List<String> calls = new ArrayList<>();
        for (int call = 0; call < CALLS; call++) {
            // Two of three runs keep to decimals or to wheels, so that states build up which the whole face disturbs.
            int from = number % 3 == 2 ? 19 : 0;
            int to = number % 3 == 1 ? 27 : FACE.length;
            String[] form = FACE[from + next(to - from)].split(" ");
            Object[] arguments = new Object[form.length - 1];
            for (int i = 0; i < arguments.length; i++) {
                arguments[i] = argument(form[i + 1]);
            }
            calls.add(form[0] + Arrays.toString(arguments));
            due(calls, answer(find(Ninewheel.class, form[0]), got, arguments),
                answer(find(Model.class, form[0]), want, arguments));
            if (call % 8 == 7) {
                due(calls, got.digest(), want.digest());
            }
        }
    }

    private static void checkFaceIsCovered() {
        List<String> named = new ArrayList<>();
        for (String form : FACE) {
            named.add(form.split(" ")[0]);
        }
        List<String> there = new ArrayList<>();
        for (Method method : Ninewheel.class.getMethods()) {
            if (method.getDeclaringClass() == Ninewheel.class) {
                there.add(method.getName());
            }
        }
        named.sort(Comparator.naturalOrder());
        there.sort(Comparator.naturalOrder());
        due(List.of("the names of the face"), there, named);
    }

    /** All wheels that there can be, and all that is asked of one alone. */
    private static void allWheels() {
        for (int bottom = 1; bottom <= 99; bottom++) {
            for (int top = 0; top < bottom; top++) {
                Ninewheel got = new Ninewheel();
                Model want = new Model();
                List<String> calls = List.of("setWheel(2, " + top + ", " + bottom + ")");
                if (bottom % 2 == 0 || bottom % 5 == 0) {
                    continue;
                }
                due(calls, got.setWheel(2, top, bottom), want.setWheel(2, top, bottom));
                due(calls, got.lowest(2), want.lowest(2));
                due(calls, got.tens(bottom), want.tens(bottom));
                due(calls, got.number(2), want.number(2));
                due(calls, got.product(2), want.product(2));
                for (int parts = 2; parts <= 12; parts++) {
                    due(calls, got.partSum(2, parts), want.partSum(2, parts));
                    due(calls, got.nines(2, parts), want.nines(2, parts));
                }
                for (int way = 0; way <= 7; way++) {
                    int places = next(17);
                    due(calls, got.cutText(2, true, places, way), want.cutText(2, true, places, way));
                    due(calls, got.cutText(2, false, places, way), want.cutText(2, false, places, way));
                }
                due(calls, got.isSound(), true);
            }
        }
    }

    private static void allRoundingsOf(int count, int places) {
        Ninewheel got = new Ninewheel();
        Model want = new Model();
        for (int way = 0; way <= 7; way++) {
            for (int to = 0; to <= 3; to++) {
                List<String> calls = List.of("put", count + " " + places, "setPlaces", to + " by " + way);
                got.put(0, count, places);
                want.put(0, count, places);
                due(calls, got.setPlaces(0, to, way), want.setPlaces(0, to, way));
                due(calls, got.text(0, 0), want.text(0, 0));
            }
            for (int digits = 1; digits <= 3; digits++) {
                List<String> calls = List.of("put", count + " " + places, "round", digits + " by " + way);
                got.put(0, count, places);
                want.put(0, count, places);
                due(calls, got.round(0, digits, way), want.round(0, digits, way));
                due(calls, got.text(0, 0), want.text(0, 0));
            }
        }
    }

    /** Small decimals of all places, to all places and to all numbers of digits, by all ways. */
    private static void allRoundings() {
        for (int count = -1100; count <= 1100; count++) {
            for (int places = 0; places <= 3; places++) {
                allRoundingsOf(count, places);
            }
        }
    }

    public static void main(String[] args) {
        checkFaceIsCovered();
        for (int number = 0; number < RUNS; number++) {
            run(number);
        }
        allWheels();
        allRoundings();
        System.out.println(wrong == 0 ? "all answers are as due" : wrong + " answers are not as due");
        if (wrong != 0) {
            System.exit(1);
        }
    }
}
