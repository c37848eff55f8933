import java.lang.reflect.InvocationTargetException;
import java.lang.reflect.Method;
import java.util.ArrayList;
import java.util.Comparator;
import java.util.List;
import java.util.Random;

/**
 * Any call with any numbers in any state (always the same ones): none throws, each ends, and each
 * answers as the Model does. Texts are sound ones, sound ones with bytes changed, and any bytes.
 */
public final class AnyCallTest {
    private static final int RUNS = 1600;
    private static final int CALLS = 300;
    private static final int[] FAR = {Integer.MIN_VALUE, Integer.MIN_VALUE + 1, -100, -11, -3, -2, -1, 6, 7, 8, 9, 12, 13,
        14, 15, 16, 17, 20, 21, 63, 64, 65, 299, 300, 301, 3000, Integer.MAX_VALUE - 4, Integer.MAX_VALUE};
    private static final String BYTES = "abcz019;=+-*/<()[] \n?A\u00ff";
    private final Random random;
    private final TextMaker maker;
    private final AnswerSlices x = new AnswerSlices();
    private final Model m = new Model();
    private final StringBuilder told = new StringBuilder();

    private AnyCallTest(long seed) {
        random = new Random(seed);
        maker = new TextMaker(random);
    }

    public static void main(String[] args) throws ReflectiveOperationException {
        List<Method> face = new ArrayList<>();
        for (Method f : AnswerSlices.class.getMethods()) {
            if (f.getDeclaringClass() == AnswerSlices.class) face.add(f);
        }
        face.sort(Comparator.comparing(Method::getName));
        Due.due("all calls of the face", face.size(), 31);
        for (int run = 0; run < RUNS && !Due.anyWrong(); run++) {
            AnyCallTest t = new AnyCallTest(run);
            for (int call = 0; call < CALLS && !Due.anyWrong(); call++) {
                if (call % 80 == 0) t.anyText();
                t.call(face.get(t.random.nextInt(face.size())));
            }
            if (Due.anyWrong()) System.out.println("run " + run + ":\n" + t.told);
        }
        Due.done("AnyCallTest");
    }

    private void anyText() {
        StringBuilder text = new StringBuilder(maker.make());
        if (text.length() > 300) text.setLength(300);
        int changes = text.length() > 0 && random.nextInt(4) == 0 ? 1 + random.nextInt(4) : 0;
        for (int n = 0; n < changes; n++) text.setCharAt(random.nextInt(text.length()), anyByte());
        if (random.nextInt(12) == 0) {
            for (int i = 0; i < text.length(); i++) text.setCharAt(i, anyByte());
        }
        x.read();
        m.read();
        Due.type(x, text.toString());
        for (char c : text.toString().toCharArray()) m.type(c, 1);
        told.append(text).append('\n');
        Due.due("read()", x.read(), m.read());
        Due.due("fault()", x.fault(), m.fault());
    }

    private char anyByte() {
        return random.nextInt(9) == 0 ? (char) random.nextInt(256) : BYTES.charAt(random.nextInt(BYTES.length()));
    }

    private Object any(Class<?> type) {
        if (type == long.class) return random.nextBoolean() ? random.nextLong() : (long) random.nextInt(3) - 1;
        return random.nextInt(5) == 0 ? FAR[random.nextInt(FAR.length)] : random.nextInt(random.nextInt(4) == 0 ? 9 : 3);
    }

    private void call(Method f) throws ReflectiveOperationException {
        Object[] numbers = new Object[f.getParameterCount()];
        for (int i = 0; i < numbers.length; i++) numbers[i] = any(f.getParameterTypes()[i]);
        // A text would hardly ever stay to be asked for.
        if (List.of("clear", "read").contains(f.getName()) && random.nextInt(8) > 0) return;
        String what = f.getName() + List.of(numbers);
        Method twin = Model.class.getDeclaredMethod(f.getName(), f.getParameterTypes());
        try {
            long got = ((Number) f.invoke(x, numbers)).longValue();
            long want = ((Number) twin.invoke(m, numbers)).longValue();
            told.append(what).append(" -> ").append(got).append('\n');
            Due.due(what, got, want);
        } catch (InvocationTargetException thrown) {
            Due.due(what + " threw " + thrown.getCause(), 1, 0);
        }
    }
}
