import java.lang.reflect.InvocationTargetException;
import java.lang.reflect.Method;

/** Every method with numbers at the edges and far beyond them, in a few states: it answers as the model does, and never throws. */
public final class ExtremesTest {
    private static final int MIN = Integer.MIN_VALUE, MAX = Integer.MAX_VALUE;
    private static final int[] MANY = {MIN, MIN + 1, -65536, -10, -6, -5, -2, -1, 0, 1, 2, 3, 4, 5, 6, 7, 8, 9, 10, 11, 12,
        31, 32, 35, 36, 37, 39, 40, 41, 49, 50, 51, 57, 58, 63, 64, 99, 100, 127, 128, 255, 256, 65536, MAX - 1, MAX};
    private static final int[] SOME = {MIN, -2, -1, 0, 1, 2, 3, 7, 8, 9, 10, 35, 36, 40, 50, 57, 58, MAX};
    private static final int[] FEW = {MIN, -1, 0, 1, 3, 4, 35, 36, MAX};
    private static final long[] LONGS = {Long.MIN_VALUE, -1, 0, 1, 1L << 35, (1L << 36) - 1, 1L << 36, 1L << 63, Long.MAX_VALUE,
        4294967296L, 68719476734L};

    private final String state;
    private final MistHeaps x = new MistHeaps();
    private final Model y = new Model();

    private ExtremesTest(String state) {
        this.state = state;
    }

    public static void main(String[] args) throws ReflectiveOperationException {
        for (String state : new String[] {"new", "few", "full"}) {
            ExtremesTest test = new ExtremesTest(state);
            test.begin();
            for (Method method : MistHeaps.class.getDeclaredMethods()) {
                if ((method.getModifiers() & java.lang.reflect.Modifier.PUBLIC) != 0) test.all(method);
            }
            for (int what = -1; what <= 6; what++) {
                Checks.due(state + ": count(" + what + ") at the end", test.x.count(what), test.y.count(what));
            }
        }
        Checks.end("ExtremesTest");
    }

    private void begin() throws ReflectiveOperationException {
        if (state.equals("new")) return;
        hill("sight 2;see 1 k=1|r>3&!c=0;hide 1 m>2;drift 3 r<3;drift 1 c>2;drift 2 s>0");
        int many = state.equals("few") ? 3 : 8;
        for (int i = 0; i < many; i++) call("heap", i % 7, (4 * i + 3) % 10, 5 * i);
        call("walk", 3);
        call("walk", 1);
        call("book", 0);
        call("book", 1);
        call("image");
        if (state.equals("few")) return;
        for (int i = 0; i < 4; i++) hill("sight 2;drift 4 h=99");
        for (int i = 0; i < 4; i++) call("walk", i);
        for (int i = 0; i < 10; i++) call("book", i % 8);
        for (int i = 0; i < 100; i++) call("feed", 'x');
    }

    private void hill(String text) throws ReflectiveOperationException {
        for (char sign : text.toCharArray()) call("feed", (int) sign);
        call("hill");
    }

    private void call(String name, Object... with) throws ReflectiveOperationException {
        for (Method method : MistHeaps.class.getDeclaredMethods()) {
            if (method.getName().equals(name)) call(method, with);
        }
    }

    private void call(Method method, Object... with) throws ReflectiveOperationException {
        Method other = Model.class.getDeclaredMethod(method.getName(), method.getParameterTypes());
        String text = state + ": " + method.getName() + java.util.Arrays.toString(with);
        long want = ((Number) other.invoke(y, with)).longValue();
        try {
            Checks.due(text, ((Number) method.invoke(x, with)).longValue(), want);
        } catch (InvocationTargetException thrown) {
            Checks.due(text + " threw " + thrown.getCause() + " and so", Long.MAX_VALUE, want);
        }
    }

    private void all(Method method) throws ReflectiveOperationException {
        int many = method.getParameterCount();
        if (many > 0 && method.getParameterTypes()[0] == long.class) {
            for (long cells : LONGS) call(method, cells);
            call(method, 0L);
            return;
        }
        fill(method, new Object[many], 0, many <= 2 ? MANY : many == 3 ? SOME : FEW);
    }

    private void fill(Method method, Object[] with, int at, int[] numbers) throws ReflectiveOperationException {
        if (at == with.length) {
            call(method, with);
            return;
        }
        for (int number : numbers) {
            with[at] = number;
            fill(method, with, at + 1, numbers);
        }
    }
}
