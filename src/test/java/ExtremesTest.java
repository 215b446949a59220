import java.lang.reflect.InvocationTargetException;
import java.lang.reflect.Method;
import java.util.Random;

/**
 * LANGUAGE.md, rule 7: no call throws by itself, for any arguments in any state. Every method, with numbers at the far
 * ends of what they hold and near every bound, also behind the 512th call; only at() throws, and only what it says.
 */
public final class ExtremesTest {
    private static final int[] NUMBERS = {Integer.MIN_VALUE, Integer.MIN_VALUE + 1, -65536, -257, -81, -17, -9, -2, -1, 0, 1, 2, 3,
        4, 5, 6, 7, 8, 9, 10, 11, 15, 16, 17, 63, 64, 65, 79, 80, 81, 99, 100, 255, 256, 499, 500, 501, 4096, 65535, 65536,
        1 << 20, Integer.MAX_VALUE - 1, Integer.MAX_VALUE};

    public static void main(String[] args) throws IllegalAccessException {
        Method[] face = RunJudge.class.getDeclaredMethods();
        for (int seed = 0; seed < 400; seed++) {
            Random dice = new Random(seed);
            RunJudge x = new RunJudge();
            int[] seq = new int[4];
            for (int i = 0; i < 900; i++) {
                if (dice.nextInt(3) == 0) play(x, dice, seq);
                Method m = face[dice.nextInt(face.length)];
                if (!java.lang.reflect.Modifier.isPublic(m.getModifiers())) continue;
                if (m.getName().equals("begin") && dice.nextInt(20) > 0) continue;
                call(x, m, dice);
            }
        }
        Check.end("ExtremesTest");
    }

    /** A letter that is mostly taken, or a tick, so that the states go on. */
    private static void play(RunJudge x, Random dice, int[] seq) {
        if (dice.nextInt(3) == 0) {
            x.step();
            return;
        }
        int p = dice.nextInt(4);
        int kind = dice.nextInt(7);
        int d = kind == 0 || kind == 4 || kind == 5 ? 0 : dice.nextInt(4);
        if (x.feed(p, x.pack(kind, d, 0, x.count(5) + dice.nextInt(5) - 2, seq[p])) >= 0) seq[p]++;
        if (x.count(8) == 0) java.util.Arrays.fill(seq, 0);
    }

    private static void call(RunJudge x, Method m, Random dice) throws IllegalAccessException {
        Class<?>[] types = m.getParameterTypes();
        Object[] values = new Object[types.length];
        for (int k = 0; k < types.length; k++) {
            int n = dice.nextBoolean() ? dice.nextInt(8) : NUMBERS[dice.nextInt(NUMBERS.length)];
            long far = dice.nextBoolean() ? dice.nextLong() : n;
            values[k] = types[k] == long.class ? (Object) far : (Object) n;
        }
        String thrown = "nothing";
        try {
            m.invoke(x, values);
        } catch (InvocationTargetException e) {
            Class<?> c = e.getCause().getClass();
            boolean isSaid = m.getName().equals("at") && (c == IllegalArgumentException.class || c == IllegalStateException.class);
            thrown = isSaid ? "nothing" : c.getName();
        }
        Check.due(m.getName() + java.util.Arrays.toString(values) + " throws " + thrown, thrown.equals("nothing") ? 0 : 1, 0);
    }
}
