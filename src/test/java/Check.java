import java.util.Objects;

/**
 * What the tests share: objects in a wanted state, and checks that hold the whole state against what it was before
 * the call. A check asks some fifty things of its object, so each is given a fresh one: the document answers for 512
 * calls alone.
 */
abstract class Check {
    static final String BOUNDS = "IndexOutOfBoundsException";
    static final String ILLEGAL = "IllegalArgumentException";

    /** Where the lines of state() begin that tell of the wheels, and of the house. */
    private static final int WHEEL_LINES = 4;
    private static final int HOUSE_LINES = 7;

    private static final int MOST_TOLD = 40;

    private static int checks = 0;
    private static int wrong = 0;
    private static String sentence = "";

    interface Call {
        Object on(Ninewheel x);
    }

    /** Names the promise and the sentence that the checks from here on hold. */
    static void about(int promise, String words) {
        sentence = "promise " + promise + ", \"" + words + "\"";
    }

    static void due(boolean isRight, String what) {
        checks++;
        if (!isRight) {
            wrong++;
        }
        if (!isRight && wrong <= MOST_TOLD) {
            System.out.println(sentence + ": " + what + ", " + place());
        }
    }

    private static String place() {
        for (StackTraceElement at : new Throwable().getStackTrace()) {
            if (!at.getClassName().equals("Check")) {
                return at.getFileName() + " " + at.getLineNumber();
            }
        }
        return "nowhere";
    }

    static void is(Object got, Object want) {
        due(Objects.equals(got, want), got + ", due is " + want);
    }

    // ---- objects

    /** An object whose cells, from 0 on, have what these texts write. */
    static Ninewheel cells(String... texts) {
        Ninewheel x = new Ninewheel();
        for (int cell = 0; cell < texts.length; cell++) {
            int point = texts[cell].indexOf('.');
            int places = point < 0 ? 0 : texts[cell].length() - point - 1;
            x.put(cell, Integer.parseInt(texts[cell].replace(".", "")), places);
        }
        return x;
    }

    /** The same, but beginning with another cell than 0, and behind cell 3 with cell 0 again. */
    static Ninewheel cellsFrom(int first, String... texts) {
        String[] all = {"0", "0", "0", "0"};
        for (int i = 0; i < texts.length; i++) {
            all[(first + i) % 4] = texts[i];
        }
        return cells(all);
    }

    /** An object whose wheels, from 0 on, have these tops and bottoms. */
    static Ninewheel wheels(int... topsAndBottoms) {
        Ninewheel x = new Ninewheel();
        for (int i = 0; i + 1 < topsAndBottoms.length; i += 2) {
            x.setWheel(i / 2, topsAndBottoms[i], topsAndBottoms[i + 1]);
        }
        return x;
    }

    /** The same, with wheel 0 turned to a place. */
    static Ninewheel turnedTo(int place, int... topsAndBottoms) {
        Ninewheel x = wheels(topsAndBottoms);
        x.turn(0, place);
        return x;
    }

    // ---- the whole state

    private static String wheelLine(Ninewheel x, int wheel) {
        StringBuilder line = new StringBuilder();
        for (int what = 0; what < 5; what++) {
            line.append(what == 0 ? "" : " ").append(x.spoke(wheel, what));
        }
        return line.toString();
    }

    /** The four cells, the three wheels (TOP, BOTTOM, PLACE, REST, LENGTH) and the four numbers of the house. */
    static String[] state(Ninewheel x) {
        String[] lines = new String[HOUSE_LINES + 4];
        for (int cell = 0; cell < 4; cell++) {
            lines[cell] = x.text(cell, 0);
        }
        for (int wheel = 0; wheel < 3; wheel++) {
            lines[WHEEL_LINES + wheel] = wheelLine(x, wheel);
        }
        for (int what = 0; what < 4; what++) {
            lines[HOUSE_LINES + what] = String.valueOf(x.house(what));
        }
        return lines;
    }

    private static void countOne(String[] lines, int what) {
        int line = HOUSE_LINES + what;
        lines[line] = String.valueOf(Integer.parseInt(lines[line]) + 1);
    }

    private static Object answer(Ninewheel x, Call call) {
        try {
            return call.on(x);
        } catch (RuntimeException thrown) {
            return thrown.getClass().getSimpleName();
        }
    }

    private static void leads(Ninewheel x, Call call, Object due, String[] before, String[] after) {
        Object got = answer(x, call);
        String all = String.join(" | ", state(x));
        String want = String.join(" | ", after);
        due(Objects.equals(got, due) && all.equals(want), "behind [" + String.join(" | ", before) + "] it answered "
            + got + " and left [" + all + "], due is " + due + " and [" + want + "]");
    }

    /** The checksum as the document words it, of what the public face answers. */
    static long checksum(Ninewheel x) {
        long d = 7944;
        for (int cell = 0; cell < 4; cell++) {
            d = d * 31 + x.count(cell);
            d = d * 31 + x.places(cell);
            d = d * 31 + x.digits(cell);
            d = d * 31 + x.sign(cell);
        }
        int[][] pairs = {{0, 1}, {0, 2}, {0, 3}, {1, 2}, {1, 3}, {2, 3}};
        for (int[] pair : pairs) {
            d = d * 31 + x.order(pair[0], pair[1]);
            d = d * 31 + (x.same(pair[0], pair[1]) ? 1 : 0);
        }
        for (int wheel = 0; wheel < 3; wheel++) {
            for (int what = 0; what <= 4; what++) {
                d = d * 31 + x.spoke(wheel, what);
            }
            d = d * 31 + x.nines(wheel, 2);
            d = d * 31 + x.nines(wheel, 3);
            for (int cell = 0; cell < 4; cell++) {
                d = d * 31 + x.against(wheel, cell);
            }
        }
        d = d * 31 + x.wheelOrder(0, 1);
        d = d * 31 + x.wheelOrder(0, 2);
        d = d * 31 + x.wheelOrder(1, 2);
        for (int what = 0; what < 4; what++) {
            d = d * 31 + x.house(what);
        }
        return d * 31 + (x.isSound() ? 1 : 0);
    }

    // ---- checks of a call and of all that it leaves

    /** An act on decimals is done: the cell into has this text then, and nothing else changes but house(0). */
    static void brings(Ninewheel x, Call call, int change, int into, String text) {
        String[] before = state(x);
        String[] after = before.clone();
        after[into] = text;
        countOne(after, 0);
        leads(x, call, change, before, after);
    }

    /** An act on wheels is done: the wheel is like this line then, and nothing else changes but house(1). */
    static void turns(Ninewheel x, Call call, int answer, int wheel, String line) {
        String[] before = state(x);
        String[] after = before.clone();
        after[WHEEL_LINES + wheel] = line;
        countOne(after, 1);
        leads(x, call, answer, before, after);
    }

    /** The act tells -9: nothing is changed but what house() of 2 tells. */
    static void declines(Ninewheel x, Call call) {
        String[] before = state(x);
        String[] after = before.clone();
        countOne(after, 2);
        leads(x, call, -9, before, after);
    }

    /** What is asked is answered, and nothing changes. */
    static void tells(Ninewheel x, Call call, Object answer) {
        String[] before = state(x);
        leads(x, call, answer, before, before);
    }

    /** The call throws this and nothing else, and nothing changes. */
    static void fails(String name, Ninewheel x, Call call) {
        tells(x, call, name);
    }

    static void end() {
        System.out.println(wrong == 0 ? "all " + checks + " answers are as due" : wrong + " answers are not as due");
        if (wrong != 0) {
            System.exit(1);
        }
    }
}
