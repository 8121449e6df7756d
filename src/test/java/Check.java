import java.lang.reflect.InvocationTargetException;
import java.util.Objects;

/** What the tests share: it counts the answers that are not as due, and tells each of them. */
final class Check {
    /** A call that answers something. */
    interface Call {
        Object answer();
    }

    /** A call that answers nothing. */
    interface Action {
        void run();
    }

    private static int wrong = 0;
    private static int checked = 0;

    private Check() {
    }

    static void due(String what, Object got, Object want) {
        checked++;
        if (!Objects.equals(got, want)) {
            wrong++;
            System.out.println(what + " answered " + got + ", due is " + want);
        }
    }

    static void refused(String what, Class<?> exception, Call call) {
        due(what, answerOf(call), "throws " + exception.getSimpleName());
    }

    static void refusedAction(String what, Class<?> exception, Action action) {
        refused(what, exception, () -> {
            action.run();
            return "nothing";
        });
    }

    /** The answer of a call, or a text with the exact class of what it throws. */
    static Object answerOf(Call call) {
        try {
            return call.answer();
        } catch (RuntimeException e) {
            return "throws " + e.getClass().getSimpleName();
        }
    }

    /** The answer of a public method that is called by its name, null if it answers nothing. */
    static Object answerByName(Object target, String name, Object... values) {
        Class<?>[] types = new Class<?>[values.length];
        for (int i = 0; i < values.length; i++) {
            types[i] = values[i] instanceof Character ? char.class : int.class;
        }
        try {
            return target.getClass().getMethod(name, types).invoke(target, values);
        } catch (InvocationTargetException e) {
            return "throws " + e.getCause().getClass().getSimpleName();
        } catch (ReflectiveOperationException e) {
            return "cannot be called: " + e;
        }
    }

    static void type(SetupJobShop shop, String text) {
        for (int i = 0; i < text.length(); i++) {
            shop.append(text.charAt(i));
        }
    }

    /** All that can be asked of a shop, as one text, to see whether a call changed it. */
    static String stateOf(SetupJobShop shop) {
        StringBuilder state = new StringBuilder();
        for (int job = 0; job < shop.count(0); job++) {
            state.append(" job ").append(shop.completion(job));
        }
        for (int operation = 0; operation < shop.count(1); operation++) {
            for (int what = 0; what <= 5; what++) {
                state.append(' ').append(shop.property(operation, what));
            }
            for (int what = 0; what <= 2; what++) {
                state.append(' ').append(shop.time(operation, what));
            }
        }
        for (int what = 0; what <= 4; what++) {
            state.append(" objective ").append(shop.objective(what));
        }
        for (int machine = 0; machine < 4; machine++) {
            state.append(" bound ").append(shop.bound(machine));
        }
        return state.toString();
    }

    static void end() {
        System.out.println(checked + " answers checked, " + wrong + " not as due");
        if (wrong != 0) {
            System.exit(1);
        }
    }
}
