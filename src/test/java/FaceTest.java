import java.lang.reflect.Constructor;
import java.lang.reflect.Field;
import java.lang.reflect.Method;
import java.lang.reflect.Modifier;
import java.util.Arrays;
import java.util.Set;
import java.util.TreeSet;

/** Holds the public face against the document's, and sees that nothing else shows. */
public final class FaceTest {
    private static final String B = " throws IndexOutOfBoundsException";
    private static final String I = " throws IllegalArgumentException";
    private static final String BI = " throws IndexOutOfBoundsException IllegalArgumentException";

    private static final String[] FACE = {
        "int put int int int" + BI,
        "int write int boolean int int int" + BI,
        "int copy int int" + B,
        "int negate int" + B,
        "int size int" + B,
        "int add int int int" + B,
        "int subtract int int int" + B,
        "int multiply int int int" + B,
        "int power int int int" + BI,
        "int divide int int int int int" + BI,
        "int share int int int" + BI,
        "int whole int int int" + BI,
        "int rest int int int" + BI,
        "int setPlaces int int int" + BI,
        "int strip int" + B,
        "int move int int" + BI,
        "int round int int int" + BI,
        "int greater int int int" + B,
        "int lesser int int int" + B,
        "int cut int boolean int int int" + BI,
        "int count int" + B,
        "int places int" + B,
        "int digits int" + B,
        "int sign int" + B,
        "String text int int" + BI,
        "int order int int" + B,
        "boolean same int int" + B,
        "int setWheel int int int" + BI,
        "int step int" + B,
        "int turn int int" + BI,
        "int times int int int" + BI,
        "int spoke int int" + BI,
        "int lowest int" + B,
        "int tens int" + I,
        "int restAt int int" + BI,
        "String digitsFrom int int int" + BI,
        "String cutText int boolean int int" + BI,
        "String number int" + B,
        "String product int" + B,
        "String partSum int int" + BI,
        "int nines int int" + BI,
        "int placeOf int int" + B,
        "int wheelOrder int int" + B,
        "int against int int" + B,
        "int house int" + I,
        "int knock",
        "boolean isSound",
        "long digest",
    };

    private static int wrong = 0;

    private FaceTest() {
    }

    private static void check(boolean isRight, String what) {
        if (!isRight) {
            wrong++;
            System.out.println(what);
        }
    }

    private static String form(Method method) {
        StringBuilder form = new StringBuilder(method.getReturnType().getSimpleName());
        form.append(' ').append(method.getName());
        for (Class<?> parameter : method.getParameterTypes()) {
            form.append(' ').append(parameter.getSimpleName());
        }
        if (method.getExceptionTypes().length > 0) {
            form.append(" throws");
        }
        for (Class<?> thrown : method.getExceptionTypes()) {
            form.append(' ').append(thrown.getSimpleName());
        }
        return form.toString();
    }

    public static void main(String[] args) {
        Class<?> face = Ninewheel.class;
        Set<String> names = new TreeSet<>();
        Set<String> there = new TreeSet<>();
        for (Method method : face.getDeclaredMethods()) {
            if (Modifier.isPublic(method.getModifiers())) {
                there.add(form(method));
                names.add(method.getName());
                check(!Modifier.isStatic(method.getModifiers()), method + " is static");
            }
        }
        for (Method method : face.getDeclaredMethods()) {
            if (!Modifier.isPublic(method.getModifiers()) && !method.isSynthetic()) {
                check(Modifier.isPrivate(method.getModifiers()), method + " shows");
                check(!names.contains(method.getName()), method + " bears a public one's name");
            }
        }
        Set<String> due = new TreeSet<>(Arrays.asList(FACE));
        check(there.equals(due), "the face is " + there + ", due is " + due);
        for (Field field : face.getDeclaredFields()) {
            check(Modifier.isPrivate(field.getModifiers()), field + " shows");
            check(Modifier.isFinal(field.getModifiers()) || !Modifier.isStatic(field.getModifiers()),
                field + " varies");
        }
        Constructor<?>[] constructors = face.getDeclaredConstructors();
        check(constructors.length == 1 && constructors[0].getParameterCount() == 0
            && Modifier.isPublic(constructors[0].getModifiers()), "there is another constructor");
        check(Modifier.isFinal(face.getModifiers()) && Modifier.isPublic(face.getModifiers()), "it is not final");
        for (Class<?> inside : face.getDeclaredClasses()) {
            check(!Modifier.isPublic(inside.getModifiers()) && Modifier.isStatic(inside.getModifiers()), inside + "");
        }
        System.out.println(wrong == 0 ? "the face is as due" : wrong + " things are not as due");
        if (wrong != 0) {
            System.exit(1);
        }
    }
}
