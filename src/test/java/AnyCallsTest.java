import java.lang.reflect.InvocationTargetException;
import java.lang.reflect.Method;
import java.lang.reflect.Modifier;
import java.util.ArrayList;
import java.util.Comparator;
import java.util.List;
import java.util.Random;

/**
 * Any calls with any numbers: none throws, none but those that may change what is told, and the same calls give the
 * same answers, whatever was asked between them.
 */
public final class AnyCallsTest {
    private static final int[] EDGES = {Integer.MIN_VALUE, Integer.MIN_VALUE + 9, -1000, -2, -1, 0, 1, 2, 3, 4, 5, 6, 7,
        8, 9, 10, 13, 16, 17, 20, 26, 30, 36, 39, 40, 41, 60, 61, 99, 100, 101, 163, 170, 499, 600, 999, 1000,
        Integer.MAX_VALUE - 9, Integer.MAX_VALUE};
    private static final String[][] TEXTS = {
        {"", "cross 0;", "cross 1 2;cross 0 2;cross;inn 2;walkers 0 9;walkers 1 3;post 0 1;",
            "cross 1 2 3 4;cross 5 6 0 1;cross 2 2 2 6;cross 0 1 2 3;cross 4 5;cross 6;cross 0 0;inn 6;post 1 3;",
            "cross 1 0;cross 2 0;cross 3 0;cross 3;walkers 3 1;", "cross 1 1;cross 0 0;inn 0;inn 1;post 0 1;"},
        {"", "add 0;run 0;go 0;turn 0;shut 0 0;open 0 0;run 0;", "turn 1;shut 1 1;run 1;", "run 0;run 0;run 6;"},
        {"", "came 0 2;", "never 0;came 1 2;", "never 6;", "came 0 2;came 0 2;came 1 2;", "never 0;"},
    };

    public static void main(String[] args) throws Exception {
        int rounds = args.length > 0 ? Integer.parseInt(args[0]) : 300;
        List<Method> methods = new ArrayList<>();
        for (Method m : TurnedPosts.class.getDeclaredMethods()) {
            if (Modifier.isPublic(m.getModifiers())) {
                methods.add(m);
            }
        }
        methods.sort(Comparator.comparing(Method::getName));
        for (int round = 0; round < rounds; round++) {
            round(methods, new Random(round), round);
        }
        Check.done("AnyCallsTest");
    }

    private static void round(List<Method> methods, Random random, int round) throws Exception {
        TurnedPosts x = new TurnedPosts();
        TurnedPosts other = new TurnedPosts();
        for (int i = 0; i < 250; i++) {
            if (random.nextInt(8) == 0) {
                int sort = random.nextInt(3);
                String text = TEXTS[sort][random.nextInt(TEXTS[sort].length)];
                int at = random.nextInt(3) - 1;
                x.end(0);
                other.end(0);
                Check.due("text", Check.text(x, sort, at, text), Check.text(other, sort, at, text));
                continue;
            }
            Method m = methods.get(random.nextInt(methods.size()));
            Object[] numbers = new Object[m.getParameterCount()];
            for (int k = 0; k < numbers.length; k++) {
                numbers[k] = m.getParameterTypes()[k] == boolean.class ? (Object) random.nextBoolean()
                    : (Object) someNumber(random, k);
            }
            boolean changes = List.of("feed", "end", "text", "image", "again").contains(m.getName());
            Object answer = call(m, x, numbers, round);
            // the other object is asked half as much, and so has other things worked out and held
            if (changes || random.nextBoolean()) {
                Object then = call(m, other, numbers, round);
                Check.due("round " + round + " " + m.getName() + " " + List.of(numbers), answer.equals(then), true);
            }
        }
    }

    private static int someNumber(Random random, int k) {
        int kind = random.nextInt(10);
        if (kind == 0) {
            return random.nextInt();
        }
        if (kind < 3) {
            return EDGES[random.nextInt(EDGES.length)];
        }
        return k == 0 ? random.nextInt(2) : kind < 7 ? random.nextInt(7) : random.nextInt(40);
    }

    private static Object call(Method m, TurnedPosts x, Object[] numbers, int round) throws Exception {
        try {
            return m.invoke(x, numbers);
        } catch (InvocationTargetException e) {
            Check.due("round " + round + " " + m.getName() + " " + List.of(numbers) + " threw " + e.getCause(), 1, 0);
            return 0;
        }
    }
}
