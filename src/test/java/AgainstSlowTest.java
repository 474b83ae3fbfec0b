import java.util.ArrayList;
import java.util.List;
import java.util.Random;

/** Compares the class with Slow on lands, days and logs made by chance (by fixed seeds). */
public final class AgainstSlowTest {
    private static final int MOST_CALLS = 512;

    private static Random random;
    private static final List<String> texts = new ArrayList<>();
    private static final List<Integer> sorts = new ArrayList<>();
    private static TurnedPosts told;
    private static int calls;

    public static void main(String[] args) {
        int rounds = args.length > 0 ? Integer.parseInt(args[0]) : 400;
        int from = args.length > 1 ? Integer.parseInt(args[1]) : 0;
        for (int round = from; round < from + rounds; round++) {
            random = new Random(round);
            compare(round);
        }
        Check.done("AgainstSlowTest");
    }

    private static Slow.Land someLand() {
        Slow.Land land = new Slow.Land();
        int n = random.nextInt(12) == 0 ? random.nextInt(2) : 1 + random.nextInt(random.nextInt(6) == 0 ? 7 : 5);
        int most = 1 + random.nextInt(random.nextInt(3) == 0 || n < 5 ? 4 : 2);
        boolean near = random.nextInt(3) == 0;
        for (int c = 0; c < n; c++) {
            List<Integer> row = new ArrayList<>();
            int roads = random.nextInt(5) == 0 ? random.nextInt(most + 1) : most;
            for (int r = 0; r < roads; r++) {
                boolean ahead = near && random.nextInt(4) != 0;
                row.add(ahead ? Math.min(n - 1, Math.max(0, c - 1 + 2 * random.nextInt(2))) : random.nextInt(n));
            }
            land.roads.add(row);
            land.post[c] = random.nextBoolean() && roads > 0 ? random.nextInt(roads) : 0;
            land.walkers[c] = random.nextInt(3) == 0 ? random.nextInt(10) : random.nextInt(2);
            if (random.nextInt(4) == 0 || (c == n - 1 && random.nextInt(3) != 0)) {
                land.inns.add(c);
            }
        }
        return land;
    }

    private static List<Slow.Deed> someDay(Slow.Land land) {
        List<Slow.Deed> day = new ArrayList<>();
        Slow.Course course = new Slow.Course(land);
        int wanted = random.nextInt(41);
        for (int i = 0; i < wanted; i++) {
            // mostly deeds that can be, so that days go far
            for (int tries = 0; tries < 20; tries++) {
                Slow.Deed deed = new Slow.Deed(random.nextInt(6), random.nextInt(Math.max(1, land.size())),
                    random.nextInt(3));
                if (tries == 19 && random.nextInt(2) != 0) {
                    day.add(deed);
                } else if (course.does(deed)) {
                    day.add(deed);
                    break;
                }
            }
        }
        while (day.size() > 40) {
            day.remove(day.size() - 1);
        }
        if (day.size() < 40 && random.nextBoolean()) {
            day.add(new Slow.Deed(random.nextInt(6), random.nextInt(7), random.nextInt(4)));
        }
        return day;
    }

    private static List<int[]> someLog(Slow.Land land) {
        List<int[]> log = new ArrayList<>();
        List<int[]> ways = Slow.ways(land);
        Slow.Sim sim = new Slow.Sim(land, ways.get(random.nextInt(ways.size())));
        int facts = random.nextInt(4) == 0 ? random.nextInt(9) : random.nextInt(4);
        for (int k = 0; k < facts; k++) {
            int c = land.size() == 0 || random.nextInt(40) == 0 ? random.nextInt(7) : random.nextInt(land.size());
            int inn = random.nextInt(8) - 1;
            if (random.nextInt(10) != 0 && land.has(c)) {
                sim.walk(c);
                inn = sim.came() ? sim.at : Slow.NONE;
            }
            log.add(new int[] {c, inn});
        }
        return log;
    }

    /** The object to be asked so many times more: a new one, told the same, if it would be more than it is good for. */
    private static TurnedPosts forCalls(int more) {
        if (told == null || calls + more > MOST_CALLS) {
            tellAnew();
        }
        calls += more;
        return told;
    }

    private static void tellAnew() {
        told = new TurnedPosts();
        calls = 0;
        int[] howMany = new int[3];
        for (int i = 0; i < texts.size(); i++) {
            int sort = sorts.get(i);
            String text = texts.get(i);
            Check.due("text " + text, Check.text(told, sort, TurnedPosts.NONE, text), howMany[sort]);
            howMany[sort]++;
            calls += text.length() / 20 + 3;
        }
    }

    private static void toBeTold(int sort, String text) {
        sorts.add(sort);
        texts.add(text);
    }

    private static String textOf(List<Slow.Deed> day) {
        StringBuilder text = new StringBuilder();
        for (Slow.Deed deed : day) {
            text.append(deed.text());
        }
        return text.toString();
    }

    private static String textOfLog(List<int[]> log) {
        StringBuilder text = new StringBuilder();
        for (int[] fact : log) {
            text.append(fact[1] == Slow.NONE ? "never " + fact[0] + ";" : "came " + fact[0] + " " + fact[1] + ";");
        }
        return text.toString();
    }

    private static void compare(int round) {
        Slow.Land[] lands = {someLand(), someLand()};
        List<List<Slow.Deed>> days = new ArrayList<>();
        List<List<int[]>> logs = new ArrayList<>();
        told = null;
        texts.clear();
        sorts.clear();
        for (int i = 0; i < 2; i++) {
            days.add(someDay(lands[i]));
            logs.add(someLog(lands[i]));
            toBeTold(0, lands[i].text());
            toBeTold(1, textOf(days.get(i)));
            toBeTold(2, textOfLog(logs.get(i)));
        }
        for (int i = 0; i < 2; i++) {
            String run = "round " + round + ", land " + lands[i].text() + " ";
            compareWalks(i, lands[i], run);
            compareWays(i, lands[i], run);
            compareRoads(i, lands[i], run);
            compareDrawn(i, lands[i], run);
            for (int j = 0; j < 2; j++) {
                compareDay(i, j, lands[i], days.get(j), run);
                compareLog(i, j, lands[i], logs.get(j), run);
            }
        }
    }

    private static void compareWalks(int i, Slow.Land land, String run) {
        TurnedPosts x = forCalls(31);
        for (int what = -1; what < 30; what++) {
            Check.due(run + "endOf " + what, x.endOf(i, what), Slow.endOf(land, what));
        }
        for (int c = -1; c <= 7; c++) {
            String at = run + "crossing " + c + " ";
            x = forCalls(99);
            for (int what = -1; what < 19; what++) {
                Check.due(at + "walk " + what, x.walk(i, c, what), Slow.walk(land, c, what));
            }
            for (int what = -1; what < 5; what++) {
                Check.due(at + "cover " + what, x.cover(i, c, what), Slow.cover(land, c, what));
                Check.due(at + "led " + what, x.led(i, c, what), Slow.led(land, c, what));
            }
            for (int k : new int[] {-1, 0, 1, 2, 3, 10, 98, 99, 100}) {
                Check.due(at + "come " + k, x.come(i, c, k), Slow.come(land, c, k));
            }
            for (int inn = -1; inn <= 7; inn++) {
                for (int k : new int[] {-1, 0, 1, 2, 9, 100}) {
                    Check.due(at + "share " + k + " " + inn, x.share(i, c, k, inn), Slow.share(land, c, k, inn));
                }
            }
            for (int b = 0; b < 2; b++) {
                Check.due(at + "period " + b, x.period(i, c, b == 1), Slow.period(land, c, b == 1));
                Check.due(at + "keys " + b, x.keys(i, c, b == 1), Slow.keys(land, c, b == 1));
            }
        }
    }

    private static void compareWays(int i, Slow.Land land, String run) {
        Check.due(run + "trees", forCalls(1).trees(i), Slow.trees(land));
        for (int c = -1; c <= 7; c++) {
            String at = run + "crossing " + c + " ";
            TurnedPosts x = forCalls(170);
            for (int inn = -1; inn <= 7; inn++) {
                for (int what : new int[] {-1, 0, 1, 2, 9, 10, 11, 12, 13, 14, 15, 16, 17}) {
                    Check.due(at + "set " + inn + " " + what, x.set(i, c, inn, what), Slow.set(land, c, inn, what));
                }
                Check.due(at + "lot N " + inn, x.lot(i, c, inn, false), Slow.lot(land, c, inn, false));
                Check.due(at + "lot D " + inn, x.lot(i, c, inn, true), Slow.lot(land, c, inn, true));
            }
            for (int b = 0; b < 2; b++) {
                Check.due(at + "mean " + b, x.mean(i, c, b == 1), Slow.mean(land, c, b == 1));
                for (int n = -1; n <= 4; n++) {
                    Check.due(at + "game " + n + " " + b, x.game(i, c, n, b == 1), Slow.game(land, c, n, b == 1));
                }
                for (int w = 0; w < 2; w++) {
                    Check.due(at + "longest " + b + " " + w, x.longest(i, c, b == 1, w == 1),
                        Slow.longest(land, c, b == 1, w == 1));
                }
            }
            Check.due(at + "back", x.back(i, c), Slow.back(land, c));
        }
    }

    private static void compareRoads(int i, Slow.Land land, String run) {
        TurnedPosts x = forCalls(127);
        for (int what = -1; what < 9; what++) {
            Check.due(run + "classes " + what, x.classes(i, what), Slow.classes(land, what));
        }
        for (int c = -1; c <= 7; c++) {
            for (int b = -1; b <= 7; b++) {
                Check.due(run + "far " + c + " " + b, x.far(i, c, b), Slow.far(land, c, b));
            }
            for (int what = -1; what < 3; what++) {
                Check.due(run + "reach " + c + " " + what, x.reach(i, c, what), Slow.reach(land, c, what));
            }
        }
    }

    private static void compareDrawn(int i, Slow.Land land, String run) {
        for (int n : new int[] {-1, 0, 1, 5, 30, 59, 60, 61}) {
            int seed = random.nextInt();
            TurnedPosts x = forCalls(41);
            for (int what = -1; what < 40; what++) {
                Check.due(run + "drawn " + seed + " " + n + " " + what, x.drawn(i, seed, n, what),
                    Slow.drawn(land, seed, n, what));
            }
        }
    }

    private static void compareDay(int i, int j, Slow.Land land, List<Slow.Deed> day, String run) {
        TurnedPosts x = forCalls(8);
        Check.due(run + "stop", x.stop(i, j), Slow.stop(land, day));
        for (int what = -1; what < 6; what++) {
            Check.due(run + "after " + what, x.after(i, j, what), Slow.after(land, day, what));
        }
        for (int n = -1; n <= day.size() + 1; n += 1 + random.nextInt(4)) {
            x = forCalls(41);
            for (int what = -1; what < 40; what++) {
                Check.due(run + "state " + n + " " + what, x.state(i, j, n, what), Slow.state(land, day, n, what));
            }
        }
    }

    private static void compareLog(int i, int j, Slow.Land land, List<int[]> log, String run) {
        String by = run + "log " + j + " ";
        TurnedPosts x = forCalls(220);
        List<int[][]> fitting = Slow.fitting(land, log);
        for (int what = -1; what < 12; what++) {
            Check.due(by + "fits " + what, x.fits(i, j, what),
                what < 0 ? -2 : Slow.fits(land, log, fitting, what));
        }
        for (int k = 0; k < fitting.size() + 2; k += 1 + fitting.size() / 40) {
            Check.due(by + "fits " + (10 + k), x.fits(i, j, 10 + k), Slow.fits(land, log, fitting, 10 + k));
        }
        for (int c = -1; c <= 7; c++) {
            for (int r = -1; r <= 4; r++) {
                Check.due(by + "odds N " + c + " " + r, x.odds(i, j, c, r, false), Slow.odds(land, fitting, c, r, false));
                Check.due(by + "odds D " + c + " " + r, x.odds(i, j, c, r, true), Slow.odds(land, fitting, c, r, true));
            }
        }
        Check.due(by + "least", x.least(i, j, false), Slow.least(fitting, false));
        Check.due(by + "most", x.least(i, j, true), Slow.least(fitting, true));
    }
}
