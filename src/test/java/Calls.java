import java.lang.reflect.InvocationTargetException;
import java.lang.reflect.Method;
import java.util.HashMap;
import java.util.Map;
import java.util.Set;

/** Calls a mill (GustMill, or SlowMill beside it) by the name of the method, and tells the answer as a text. */
final class Calls {
    /** The calls that may change a mill; all others are questions. */
    static final Set<String> CHANGING = Set.of(
        "addStone", "setWind", "setRule", "setTakingOff", "bring", "lift", "setUntil", "pass");

    // To look up the methods anew for each call takes more time than all else in the tests.
    private static final Map<Class<?>, Map<String, Method>> METHODS = new HashMap<>();

    private Calls() {
    }

    /** The answer of a call; for one that throws, "throws." and the exception's name. A boolean is given as 0 or 1. */
    static String answer(Object mill, String name, int... numbers) {
        Method method = methodOf(mill, name);
        Class<?>[] types = method.getParameterTypes();
        if (types.length != numbers.length) {
            throw new IllegalArgumentException(name + " takes " + types.length + " numbers");
        }
        Object[] given = new Object[numbers.length];
        for (int i = 0; i < numbers.length; i++) {
            given[i] = types[i] == boolean.class ? (Object) (numbers[i] != 0) : (Object) numbers[i];
        }
        try {
            return String.valueOf(method.invoke(mill, given));
        } catch (InvocationTargetException e) {
            return "throws." + e.getCause().getClass().getSimpleName();
        } catch (IllegalAccessException e) {
            throw new IllegalStateException(e);
        }
    }

    private static Method methodOf(Object mill, String name) {
        Map<String, Method> methods = METHODS.computeIfAbsent(mill.getClass(), Calls::methodsOf);
        if (!methods.containsKey(name)) {
            throw new IllegalArgumentException("no method " + name);
        }
        return methods.get(name);
    }

    private static Map<String, Method> methodsOf(Class<?> type) {
        Map<String, Method> methods = new HashMap<>();
        for (Method method : type.getDeclaredMethods()) {
            methods.put(method.getName(), method);
        }
        return methods;
    }

    /**
     * Everything that a mill tells about itself, in some 200 calls. Winds and taking off can only be seen
     * by setting them, so they are set and set back.
     */
    static String snapshot(Object mill) {
        StringBuilder text = new StringBuilder();
        for (String name : new String[] {"hour", "stones", "sacks", "rule", "wind", "ground", "changes", "first",
            "late", "bestRule", "meanLeft", "digest"}) {
            note(text, mill, name);
        }
        for (int stone = 0; stone < Integer.parseInt(answer(mill, "stones")); stone++) {
            note(text, mill, "sackOn", stone);
        }
        for (int sack = 0; sack < Integer.parseInt(answer(mill, "sacks")); sack++) {
            for (String name : new String[] {"stoneOf", "leftOf", "untilOf", "groundAt", "placeOf", "willBeGroundAt",
                "spareOf"}) {
                note(text, mill, name, sack);
            }
        }
        for (int baker = 0; baker < 8; baker++) {
            note(text, mill, "leftFor", baker);
        }
        for (int rule = 0; rule < 3; rule++) {
            note(text, mill, "lateWith", rule, 0);
            note(text, mill, "lateWith", rule, 1);
        }
        note(text, mill, "wouldBeInTime", 9, 20);
        note(text, mill, "groundIn", 30);
        for (int number = 0; number < 12; number++) {
            String wind = answer(mill, "setWind", number, 5);
            // A refusal, wrong as it is, is told by the run that asks for it, so it must not end the test here.
            if (!wind.startsWith("throws.")) {
                answer(mill, "setWind", number, Integer.parseInt(wind));
            }
            text.append(" wind ").append(number).append(" = ").append(wind);
        }
        String isTakingOff = answer(mill, "setTakingOff", 0);
        answer(mill, "setTakingOff", isTakingOff.equals("true") ? 1 : 0);
        return text.append(" takingOff = ").append(isTakingOff).toString();
    }

    private static void note(StringBuilder text, Object mill, String name, int... numbers) {
        text.append(name);
        for (int number : numbers) {
            text.append(' ').append(number);
        }
        text.append(" = ").append(answer(mill, name, numbers)).append("; ");
    }
}
