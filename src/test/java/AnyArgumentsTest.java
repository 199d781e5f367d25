import java.lang.reflect.InvocationTargetException;
import java.lang.reflect.Method;
import java.lang.reflect.Modifier;
import java.util.ArrayList;
import java.util.Comparator;
import java.util.List;
import java.util.NoSuchElementException;
import java.util.Random;
import java.util.Set;

/** Whatever the arguments and the state, no call throws but the four that may, and those only what they may. */
public final class AnyArgumentsTest {
    private static final Set<String> MAY_THROW = Set.of("step", "shown", "cell", "part");
    private static final String[] TEXTS = {
        "a=$0;b=a*2;?b{#1=a;!b;?#1{c=a+b}};!a+b+c+#1", "!1", "@3a=1;@2!a;@0?a{#7=$7}",
        "a=1;b=a;c=b;d=c;e=d;f=e;g=f;h=g;a=h;b=a;c=b;d=c;e=d;f=e;g=f;!g",
    };

    private static int number(Random dice) {
        int[] edges = {Integer.MIN_VALUE, Integer.MAX_VALUE, -1, -2, 64, 50, 1 << 30};
        return dice.nextInt(4) == 0 ? edges[dice.nextInt(edges.length)] : dice.nextInt(10) - 1;
    }

    private static long cut(Random dice) {
        long[] edges = {Long.MIN_VALUE, Long.MAX_VALUE, -1, 1L << 32, (1L << 32) - 1, 1L << 62};
        return dice.nextInt(4) == 0 ? edges[dice.nextInt(edges.length)] : dice.nextLong() >>> (32 + dice.nextInt(32));
    }

    private static Object argument(Random dice, Class<?> type) {
        return type == int.class ? (Object) number(dice) : type == long.class ? (Object) cut(dice) : dice.nextBoolean();
    }

    private static void feed(ManyPlaces x, String s) {
        for (int at = 0; at < s.length(); at += 20) {
            int[] w = new int[5];
            for (int i = 0; i < 20 && at + i < s.length(); i++) {
                w[i / 4] |= s.charAt(at + i) << (24 - 8 * (i % 4));
            }
            x.feed(w[0], w[1], w[2], w[3], w[4]);
        }
    }

    public static void main(String[] args) throws Exception {
        List<Method> face = new ArrayList<>();
        for (Method m : ManyPlaces.class.getDeclaredMethods()) {
            if (Modifier.isPublic(m.getModifiers())) {
                face.add(m);
            }
        }
        face.sort(Comparator.comparing(Method::getName));
        for (int run = 0; run < 2000; run++) {
            Random dice = new Random(run);
            ManyPlaces x = new ManyPlaces();
            int first = dice.nextInt(TEXTS.length + 1);
            for (int t = first; t < TEXTS.length; t++) {
                feed(x, TEXTS[t]);
                x.text();
            }
            for (int call = 0; call < 450; call++) {
                Method m = face.get(dice.nextInt(face.size()));
                Object[] given = new Object[m.getParameterCount()];
                for (int i = 0; i < given.length; i++) {
                    given[i] = argument(dice, m.getParameterTypes()[i]);
                }
                try {
                    m.invoke(x, given);
                } catch (InvocationTargetException e) {
                    Throwable thrown = e.getCause();
                    boolean due = thrown.getClass() == NoSuchElementException.class && MAY_THROW.contains(m.getName());
                    if (!due || !thrown.getStackTrace()[0].getClassName().equals("ManyPlaces")) {
                        System.out.println("run " + run + ": " + m.getName() + List.of(given) + " throws " + thrown);
                        System.exit(1);
                    }
                }
            }
        }
        System.out.println("no call throws what it may not");
    }
}
