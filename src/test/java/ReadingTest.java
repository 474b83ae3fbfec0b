import java.util.ArrayList;
import java.util.List;
import java.util.Random;
import java.util.regex.Matcher;
import java.util.regex.Pattern;

/** Promises 4 and 5 on texts made by chance: compares faults with those that a reader by patterns finds. */
public final class ReadingTest {
    private static final Pattern TOKEN = Pattern.compile("[ \n]*([a-z]+|[0-9]+|;|[\\s\\S]|$)");
    private static final String[][] WORDS = {
        {"cross", "post", "walkers", "inn"},
        {"go", "run", "turn", "add", "shut", "open"},
        {"came", "never"},
    };

    public static void main(String[] args) {
        int rounds = args.length > 0 ? Integer.parseInt(args[0]) : 30000;
        Random random = new Random(1);
        for (int round = 0; round < rounds; round++) {
            int sort = random.nextInt(3);
            String text = someText(random, sort);
            TurnedPosts x = new TurnedPosts();
            int answer = Check.text(x, sort, TurnedPosts.NONE, text);
            int[] due = faultOf(sort, text);
            Check.due("fault of " + sort + " <" + text + ">", x.fault(0), due[0]);
            Check.due("place of " + sort + " <" + text + ">", x.fault(1), due[1]);
            Check.due("answer of " + sort + " <" + text + ">", answer, due[0] == 0 ? 0 : -1);
        }
        Check.done("ReadingTest");
    }

    private static String someText(Random random, int sort) {
        StringBuilder s = new StringBuilder();
        int lines = random.nextInt(4) == 0 ? random.nextInt(50) : random.nextInt(12);
        int badness = random.nextInt(3) == 0 ? 8 : random.nextInt(2) == 0 ? 60 : 1000;
        for (int i = 0; i < lines; i++) {
            int kind = random.nextInt(WORDS[sort].length);
            s.append(random.nextInt(badness) == 0 ? "x" : WORDS[sort][kind]);
            int numbers = sort == 0 ? new int[] {random.nextInt(5), 2, 2, 1}[kind] : sort == 1 ? (kind < 4 ? 1 : 2)
                : 2 - kind;
            numbers += random.nextInt(badness) == 0 ? random.nextInt(3) - 1 : 0;
            for (int k = 0; k < numbers; k++) {
                s.append(random.nextInt(10) == 0 ? "" : random.nextInt(5) == 0 ? "\n " : " ");
                s.append(random.nextInt(badness) == 0 ? random.nextInt(200) : random.nextInt(k == 0 ? 7 : 4));
            }
            s.append(random.nextInt(badness) == 0 ? "" : ";");
        }
        if (random.nextInt(badness) == 0 && s.length() > 0) {
            s.setCharAt(random.nextInt(s.length()), (char) random.nextInt(256));
        }
        s.setLength(Math.min(s.length(), random.nextInt(badness) == 0 ? random.nextInt(600) : 600));
        return s.toString();
    }

    private static int[] faultOf(int sort, String text) {
        List<String> tokens = new ArrayList<>();
        List<Integer> places = new ArrayList<>();
        Matcher m = TOKEN.matcher(text);
        int from = 0;
        while (m.find(from)) {
            tokens.add(m.group(1));
            places.add(m.start(1));
            from = m.end();
            if (m.group(1).isEmpty()) {
                break;
            }
        }
        int i = 0;
        List<int[]> later = new ArrayList<>();
        List<Integer> roads = new ArrayList<>();
        int told = 0;
        int lines = 0;
        int[] posts = new int[7];
        while (!tokens.get(i).isEmpty()) {
            int kind = List.of(WORDS[sort]).indexOf(tokens.get(i));
            if (kind < 0) {
                return new int[] {1, places.get(i)};
            }
            boolean counts = sort != 0 || kind == 0;
            int most = sort == 0 ? 7 : sort == 1 ? 40 : 8;
            if (counts && ++lines > most) {
                later.add(new int[] {3, places.get(i)});
            }
            i++;
            int wanted = sort == 0 ? new int[] {99, 2, 2, 1}[kind] : sort == 1 ? (kind < 4 ? 1 : 2) : 2 - kind;
            List<Integer> numbers = new ArrayList<>();
            while (numbers.size() < wanted && tokens.get(i).matches("[0-9]{1,2}")) {
                int n = Integer.parseInt(tokens.get(i));
                int greatest = numbers.isEmpty() || (sort == 0 && kind == 0) || sort == 2 ? 6
                    : sort == 0 && kind == 2 ? 9 : 3;
                if (n > greatest) {
                    later.add(new int[] {2, places.get(i)});
                }
                if (sort == 0 && kind == 0 && numbers.size() >= 4) {
                    later.add(new int[] {3, places.get(i)});
                }
                if (sort == 0 && (kind == 0 || numbers.isEmpty()) && n < 7) {
                    told = Math.max(told, n + 1);
                }
                numbers.add(n);
                i++;
            }
            if ((wanted < 99 && numbers.size() < wanted) || !tokens.get(i).equals(";")) {
                return new int[] {1, places.get(i)};
            }
            if (sort == 0 && kind == 0) {
                roads.add(numbers.size());
            }
            if (sort == 0 && kind == 1 && numbers.get(0) < 7) {
                posts[numbers.get(0)] = numbers.get(1);
            }
            i++;
        }
        later.sort((a, b) -> a[1] != b[1] ? a[1] - b[1] : a[0] - b[0]);
        if (!later.isEmpty()) {
            return later.get(0);
        }
        if (sort == 0 && told > roads.size()) {
            return new int[] {4, text.length()};
        }
        for (int c = 0; sort == 0 && c < roads.size(); c++) {
            if (posts[c] > 0 && posts[c] >= roads.get(c)) {
                return new int[] {5, text.length()};
            }
        }
        return new int[] {0, -1};
    }
}
