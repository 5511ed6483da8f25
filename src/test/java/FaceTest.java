import java.lang.reflect.Constructor;
import java.lang.reflect.Field;
import java.lang.reflect.Method;
import java.lang.reflect.Modifier;
import java.util.Set;
import java.util.TreeSet;

/** The public face: every method of the document as it stands there, and nothing else that can be seen. */
public final class FaceTest {
    private static final Set<String> FACE = Set.of(
        "int addStone(int) IllegalArgumentException IllegalStateException",
        "int setWind(int, int) IndexOutOfBoundsException IllegalArgumentException",
        "int setRule(int) IllegalArgumentException",
        "boolean setTakingOff(boolean)",
        "int bring(int, int, int) IllegalArgumentException IllegalStateException",
        "int lift(int) IndexOutOfBoundsException IllegalStateException",
        "int setUntil(int, int) IndexOutOfBoundsException IllegalArgumentException",
        "int pass(int) IllegalArgumentException",
        "int hour()",
        "int stones()",
        "int sacks()",
        "int rule()",
        "int wind()",
        "int sackOn(int) IndexOutOfBoundsException",
        "int stoneOf(int) IndexOutOfBoundsException",
        "int leftOf(int) IndexOutOfBoundsException",
        "int untilOf(int) IndexOutOfBoundsException",
        "int groundAt(int) IndexOutOfBoundsException",
        "int ground()",
        "int changes()",
        "int first()",
        "int placeOf(int) IndexOutOfBoundsException",
        "int leftFor(int) IllegalArgumentException",
        "int late()",
        "int willBeGroundAt(int) IndexOutOfBoundsException",
        "int spareOf(int) IndexOutOfBoundsException",
        "int lateWith(int, boolean) IllegalArgumentException",
        "int bestRule()",
        "boolean wouldBeInTime(int, int) IllegalArgumentException",
        "int groundIn(int) IllegalArgumentException",
        "double meanLeft()",
        "long digest()");

    public static void main(String[] args) {
        Runs.same("the class is", Modifier.toString(GustMill.class.getModifiers()), "public final");
        Set<String> seen = new TreeSet<>();
        for (Method method : GustMill.class.getDeclaredMethods()) {
            if (!Modifier.isPrivate(method.getModifiers())) {
                Runs.same(method + " is", Modifier.toString(method.getModifiers()), "public");
                seen.add(textOf(method));
            }
        }
        Runs.same("the methods", seen, new TreeSet<>(FACE));
        for (Field field : GustMill.class.getDeclaredFields()) {
            Runs.same(field + " is private", Modifier.isPrivate(field.getModifiers()), true);
        }
        Constructor<?>[] constructors = GustMill.class.getDeclaredConstructors();
        Runs.same("how many constructors", constructors.length, 1);
        Runs.same("the constructor", constructors[0].toString(), "public GustMill()");
        Runs.end();
    }

    private static String textOf(Method method) {
        StringBuilder text = new StringBuilder();
        text.append(method.getReturnType().getSimpleName()).append(' ').append(method.getName()).append('(');
        String between = "";
        for (Class<?> type : method.getParameterTypes()) {
            text.append(between).append(type.getSimpleName());
            between = ", ";
        }
        text.append(')');
        for (Class<?> type : method.getExceptionTypes()) {
            text.append(' ').append(type.getSimpleName());
        }
        return text.toString();
    }
}
