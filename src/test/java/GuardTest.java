import java.lang.reflect.Constructor;
import java.lang.reflect.Field;
import java.lang.reflect.InvocationTargetException;
import java.lang.reflect.Method;
import java.lang.reflect.Modifier;
import java.util.ArrayList;
import java.util.Arrays;
import java.util.List;
import java.util.Random;
import java.util.TreeSet;

/**
 * Tests rule 7 of ../shared/LANGUAGE.md, "No call may ever throw by itself (only by a throw statement) ..., for any
 * arguments in any state: an index is looked at before it is used": each method is called with odd arguments while the
 * numbers in the objects are odd, too, also such as no game leads to.
 */
public final class GuardTest {
    private static final int TIMES = 2000;
    private static final int[] ODD = {Integer.MIN_VALUE, -1000, -5, -1, 0, 1, 2, 3, 4, 7, 9, 10, 15, 22, 40, 60, 63, 128,
        1000, 5000, Integer.MAX_VALUE};
    private static final String SIGNS = "lrLRcadxht29?";
    private static final Random RANDOM = new Random(7);
    private static final TreeSet<String> WRONG = new TreeSet<>();

    private GuardTest() {
    }

    public static void main(String[] args) throws ReflectiveOperationException {
        List<Class<?>> classes = new ArrayList<>(Arrays.asList(FallingBlocks.class.getDeclaredClasses()));
        classes.add(FallingBlocks.class);
        for (Class<?> owner : classes) {
            for (Method method : owner.getDeclaredMethods()) {
                for (int i = 0; i < TIMES; i++) {
                    check(owner, method);
                }
            }
        }
        for (String text : WRONG) {
            System.out.println("GuardTest: " + text);
        }
        if (!WRONG.isEmpty()) {
            System.exit(1);
        }
    }

    /** An exception is right if the method declares it and a throw statement, which writes a text of words, made it. */
    private static void check(Class<?> owner, Method method) throws ReflectiveOperationException {
        Object target = anObject(owner);
        Object[] arguments = new Object[method.getParameterCount()];
        for (int i = 0; i < arguments.length; i++) {
            arguments[i] = anArgument(method.getParameterTypes()[i]);
        }
        method.setAccessible(true);
        try {
            method.invoke(target, arguments);
        } catch (InvocationTargetException e) {
            Throwable thrown = e.getCause();
            boolean isDeclared = List.of(method.getExceptionTypes()).contains(thrown.getClass());
            if (!isDeclared || !String.valueOf(thrown.getMessage()).matches("[a-z0-9 -]+")) {
                WRONG.add(owner.getSimpleName() + "." + method.getName() + " threw " + thrown.getClass().getName());
            }
        }
    }

    private static Object anArgument(Class<?> type) throws ReflectiveOperationException {
        if (type == int.class) {
            return anOddNumber();
        }
        if (type == long.class) {
            return RANDOM.nextLong();
        }
        if (type == boolean.class) {
            return RANDOM.nextBoolean();
        }
        return type == char.class ? (Object) aSign() : anObject(type);
    }

    private static int anOddNumber() {
        return ODD[RANDOM.nextInt(ODD.length)];
    }

    private static char aSign() {
        return SIGNS.charAt(RANDOM.nextInt(SIGNS.length()));
    }

    private static Object anObject(Class<?> type) throws ReflectiveOperationException {
        Constructor<?> constructor = type.getDeclaredConstructor();
        constructor.setAccessible(true);
        Object object = constructor.newInstance();
        if (RANDOM.nextInt(4) > 0) {
            spoil(object);
        }
        return object;
    }

    /** Puts odd numbers into some fields of an object and of the objects in it. */
    private static void spoil(Object object) throws ReflectiveOperationException {
        for (Field field : object.getClass().getDeclaredFields()) {
            if (!Modifier.isStatic(field.getModifiers()) && RANDOM.nextBoolean()) {
                field.setAccessible(true);
                spoilField(object, field);
            }
        }
    }

    private static void spoilField(Object object, Field field) throws ReflectiveOperationException {
        Class<?> type = field.getType();
        boolean canChange = !Modifier.isFinal(field.getModifiers());
        if (canChange && (type == int.class || type == long.class || type == boolean.class)) {
            field.set(object, anArgument(type));
        } else if (type == int[].class) {
            Arrays.setAll((int[]) field.get(object), i -> anOddNumber());
        } else if (type == long[].class) {
            Arrays.setAll((long[]) field.get(object), i -> RANDOM.nextLong());
        } else if (type == char[].class) {
            char[] signs = (char[]) field.get(object);
            for (int i = 0; i < signs.length; i++) {
                signs[i] = aSign();
            }
        } else if (!type.isPrimitive() && !type.isArray()) {
            spoil(field.get(object));
        }
    }
}
