import java.lang.reflect.InvocationTargetException;
import java.lang.reflect.Method;
import java.lang.reflect.Modifier;
import java.util.ArrayList;
import java.util.Arrays;
import java.util.HashMap;
import java.util.List;
import java.util.Map;

/** A ledger and a Model side by side: each call goes to both, and the answers and exceptions must be the same. */
final class Twin {
    /** As many calls as an object is good for. */
    private static final int CALLS = 512;
    /** The last ones: house() of 0 to 13, isSound(), digest(). */
    private static final int LAST_CALLS = 16;
    private static final Map<String, Method> OF_CLASS = methods(Orderledger.class);
    private static final Map<String, Method> OF_MODEL = methods(Model.class);

    final Model model = new Model();
    /** Each call with its answer, in the order in which they were made. */
    final List<String> story = new ArrayList<>();
    boolean isWrong = false;
    private final Orderledger ledger = new Orderledger();

    private static Map<String, Method> methods(Class<?> of) {
        Map<String, Method> found = new HashMap<>();
        for (Method m : of.getDeclaredMethods()) {
            if (Modifier.isPublic(m.getModifiers())) {
                m.setAccessible(true);
                found.put(m.getName(), m);
            }
        }
        return found;
    }

    private static Object answer(Method m, Object on, Object[] with) {
        try {
            return m.invoke(on, with);
        } catch (InvocationTargetException e) {
            return "throws." + e.getCause().getClass().getSimpleName();
        } catch (IllegalAccessException e) {
            throw new IllegalStateException(e);
        }
    }

    /** How many calls there are ahead of the last ones. */
    int left() {
        return isWrong ? 0 : Math.max(0, CALLS - LAST_CALLS - story.size());
    }

    /** The answer; null if no call is left, and behind one that went wrong. */
    Object call(String name, Object... with) {
        return left() == 0 ? null : compare(name, with);
    }

    /** Goes to the 512th call, with the last ones; tells whether all went well. */
    boolean ends() {
        while (left() > 0) {
            compare("knock");
        }
        for (int what = 0; what < 14 && !isWrong; what++) {
            compare("house", what);
        }
        if (!isWrong) {
            compare("isSound");
            compare("digest");
        }
        return !isWrong && story.size() == CALLS;
    }

    private Object compare(String name, Object... with) {
        Object got = answer(OF_CLASS.get(name), ledger, with);
        Object due = answer(OF_MODEL.get(name), model, with);
        story.add(name + Arrays.toString(with) + " -> " + got);
        if (!got.equals(due)) {
            isWrong = true;
            System.out.println(name + Arrays.toString(with) + " answered " + got + ", due is " + due);
        }
        return got;
    }

    /** What led to a wrong answer. */
    void tell(long seed) {
        System.out.println("seed " + seed + ", the last calls:");
        for (int k = Math.max(0, story.size() - 12); k < story.size(); k++) {
            System.out.println("  " + k + " " + story.get(k));
        }
    }
}
