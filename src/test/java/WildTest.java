import java.lang.reflect.InvocationTargetException;
import java.lang.reflect.Method;
import java.util.Arrays;
import java.util.Comparator;

/** Each call of the face with numbers far out of range, in several states, held against the model. */
public final class WildTest {
    private static final int[] WILD = {
        0, -1, 1, 2, 3, 5, 6, 9, 10, 31, 32, 33, 64, 255, 65536, Integer.MAX_VALUE, Integer.MIN_VALUE, 1 << 30
    };
    private static final int[] FEW = {0, -1, 1, 4, 32, Integer.MAX_VALUE, Integer.MIN_VALUE};

    private Handshakewarden hall;
    private Model model;
    private int state;

    public static void main(String[] args) {
        for (int state = 0; state < 4; state++) {
            WildTest test = new WildTest();
            test.state = state;
            Method[] methods = Handshakewarden.class.getDeclaredMethods();
            Arrays.sort(methods, Comparator.comparing(Method::getName));
            for (Method method : methods) {
                if (java.lang.reflect.Modifier.isPublic(method.getModifiers())) {
                    test.callAll(method);
                }
            }
        }
        Check.end("WildTest");
    }

    private void makeHalls() {
        hall = new Handshakewarden();
        model = new Model();
        if (state == 0) {
            return;
        }
        for (int whole = 0; whole < 4; whole++) {
            hall.example(whole == 2 ? 2 : whole + 1);
            hall.read(whole);
            model.example(whole == 2 ? 2 : whole + 1);
            model.read(whole);
            int w = whole;
            Check.outcome(() -> hall.part(w, w, w));
            Check.outcome(() -> model.part(w, w, w));
        }
        if (state > 1) {
            hall.begin(3, 2);
            model.begin(3, 2);
            hall.image(1);
            model.image(1);
        }
        if (state > 2) {
            hall.send(0, 3);
            model.send(0, 3);
            hall.letter(0, 1, 4);
            model.letter(0, 1, 4);
        }
    }

    private void callAll(Method method) {
        int count = method.getParameterCount();
        int[] numbers = count > 2 ? FEW : WILD;
        int calls = 1;
        for (int i = 0; i < Math.min(count, 3); i++) {
            calls *= numbers.length;
        }
        makeHalls();
        for (int call = 0; call < calls; call++) {
            Object[] arguments = new Object[count];
            int rest = call;
            for (int i = 0; i < count; i++) {
                arguments[i] = i < 3 ? numbers[rest % numbers.length] : 0;
                rest /= numbers.length;
            }
            String name = "state " + state + ": " + method.getName() + Arrays.toString(arguments);
            Check.due(name, ask(model, method, arguments), ask(hall, method, arguments));
            Check.due(name + ": checksum", model.checksum(), hall.checksum());
            if (call % 100 == 99) {
                makeHalls();
            }
        }
        Check.due("stands", model.stands(), hall.stands());
        Check.due("error position", model.errorPosition(), hall.errorPosition());
    }

    private static Object ask(Object one, Method method, Object[] arguments) {
        try {
            Method same = one.getClass().getDeclaredMethod(method.getName(), method.getParameterTypes());
            return same.invoke(one, arguments);
        } catch (InvocationTargetException thrown) {
            return "throws " + thrown.getCause().getClass().getSimpleName();
        } catch (ReflectiveOperationException missing) {
            return "missing";
        }
    }
}
