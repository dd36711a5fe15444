import java.lang.reflect.Field;

/**
 * No run of calls makes an object unsound, so this test reaches into one and spoils a number: isSound() must see it,
 * and digest() must end with it. It knows the names of Ninewheel's private rows for that; whoever renames them renames
 * them here.
 */
public final class SoundTest extends Check {
    private SoundTest() {
    }

    private static Ninewheel fresh() {
        Ninewheel x = cells("999999", "-1.250");
        x.setWheel(0, 1, 7);
        x.setWheel(1, 4, 21);
        return x;
    }

    private static void spoil(String row, int at, int value) {
        Ninewheel x = fresh();
        try {
            Field field = Ninewheel.class.getDeclaredField(row);
            field.setAccessible(true);
            ((int[]) field.get(x))[at] = value;
        } catch (ReflectiveOperationException e) {
            throw new IllegalStateException(e);
        }
        about(48, "whether all of this is so, with " + row + "[" + at + "] = " + value);
        is(x.isSound(), false);
        about(49, "1 if isSound(), otherwise 0, with " + row + "[" + at + "] = " + value);
        is(x.digest(), checksum(x));
    }

    public static void main(String[] args) {
        about(48, "whether all of this is so");
        is(fresh().isSound(), true);
        spoil("counts", 0, 1000000);
        spoil("counts", 3, -1000000);
        spoil("points", 1, 4);
        spoil("points", 2, -1);
        spoil("lengths", 0, 5);
        spoil("lengths", 0, 3);
        spoil("lengths", 0, 12);
        spoil("lengths", 0, 0);
        spoil("lengths", 2, 2);
        spoil("tops", 0, 7);
        spoil("tops", 1, -1);
        spoil("bottoms", 0, 14);
        spoil("bottoms", 1, 0);
        spoil("bottoms", 0, 2);
        end();
    }
}
