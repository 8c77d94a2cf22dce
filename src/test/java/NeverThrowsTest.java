import java.lang.reflect.InvocationTargetException;
import java.lang.reflect.Method;
import java.lang.reflect.Modifier;
import java.util.Arrays;
import java.util.Comparator;
import java.util.Random;

/** No call throws, for any arguments in any state, long beyond the calls that are promised. */
public final class NeverThrowsTest {
    private static final int[] EDGES = {Integer.MIN_VALUE, Integer.MIN_VALUE + 1, -300, -2, -1, 0, 1, 2, 3, 4, 7, 8, 9, 10, 15, 16, 20, 21,
        63, 64, 127, 128, 255, 256, 257, 399, 400, 401, 672, 673, Integer.MAX_VALUE - 1, Integer.MAX_VALUE};

    private static int argument(Random random) {
        return switch (random.nextInt(3)) {
            case 0 -> EDGES[random.nextInt(EDGES.length)];
            case 1 -> random.nextInt(10);
            default -> random.nextInt(256);
        };
    }

    private static void someEntries(PackedPages x, Random random) {
        x.end(0);
        for (int i = random.nextInt(20); i >= 0; i--) {
            int[] n = new int[5];
            for (int k = 0; k < 5; k++) n[k] = random.nextBoolean() ? random.nextInt() : 0x10002000 | random.nextInt(256) << 16 | random.nextInt(256);
            x.feed(n[0], n[1], n[2], n[3], n[4]);
        }
        if (random.nextBoolean()) x.end(random.nextInt(9));
    }

    public static void main(String[] args) throws IllegalAccessException {
        Method[] face = Arrays.stream(PackedPages.class.getDeclaredMethods()).filter(m -> Modifier.isPublic(m.getModifiers()))
                .sorted(Comparator.comparing(Method::getName)).toArray(Method[]::new);
        for (int seed = 0; seed < 60; seed++) {
            Random random = new Random(seed);
            PackedPages x = new PackedPages();
            for (int i = 0; i < 3000; i++) {
                Method m = face[random.nextInt(face.length)];
                Object[] values = new Object[m.getParameterCount()];
                for (int k = 0; k < values.length; k++) values[k] = argument(random);
                try {
                    m.invoke(x, values);
                } catch (InvocationTargetException thrown) {
                    System.out.println("seed " + seed + ": " + m.getName() + Arrays.toString(values) + " threw " + thrown.getCause());
                    System.exit(1);
                }
                if (random.nextInt(6) == 0) someEntries(x, random);
                if (random.nextInt(20) == 0) x.fuse(-1);
            }
        }
        System.out.println("no call threw");
    }
}
