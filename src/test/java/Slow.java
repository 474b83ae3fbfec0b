import java.util.ArrayList;
import java.util.Arrays;
import java.util.Collections;
import java.util.HashSet;
import java.util.List;
import java.util.Set;

/** The document's words done the slow way, with the Java library, to compare the class with. */
final class Slow {
    static final int NONE = -1;

    /** A land as told. */
    static final class Land {
        final List<List<Integer>> roads = new ArrayList<>();
        final Set<Integer> inns = new HashSet<>();
        int[] post = new int[7];
        int[] walkers = new int[7];

        int size() {
            return roads.size();
        }

        boolean has(int c) {
            return c >= 0 && c < size();
        }

        boolean inn(int c) {
            return inns.contains(c);
        }

        List<Integer> out(int c) {
            return inn(c) ? List.of() : roads.get(c);
        }

        String text() {
            StringBuilder s = new StringBuilder();
            for (List<Integer> row : roads) {
                s.append("cross");
                for (int to : row) {
                    s.append(' ').append(to);
                }
                s.append(';');
            }
            for (int c = 0; c < size(); c++) {
                if (post[c] != 0) {
                    s.append("post ").append(c).append(' ').append(post[c]).append(';');
                }
                if (walkers[c] != 0) {
                    s.append("walkers ").append(c).append(' ').append(walkers[c]).append(';');
                }
                if (inn(c)) {
                    s.append("inn ").append(c).append(';');
                }
            }
            return s.toString();
        }
    }

    /** Posts that turn, one land's. */
    static final class Sim {
        final Land land;
        int[] post;
        final Set<List<Integer>> shut = new HashSet<>();
        int steps;
        int at;
        int lastRoad;

        Sim(Land land, int[] post) {
            this.land = land;
            this.post = post.clone();
        }

        /** The road the post would turn to, NONE if none. */
        int next(int c) {
            if (!land.has(c) || land.inn(c)) {
                return NONE;
            }
            int n = land.roads.get(c).size();
            for (int i = 1; i <= n; i++) {
                int r = (post[c] + i) % n;
                if (!shut.contains(List.of(c, r))) {
                    return r;
                }
            }
            return NONE;
        }

        boolean step() {
            int r = next(at);
            if (r == NONE) {
                return false;
            }
            post[at] = r;
            lastRoad = r;
            at = land.roads.get(at).get(r);
            steps++;
            return true;
        }

        Sim walk(int from) {
            at = from;
            steps = 0;
            while (steps < 499 && step()) {
                continue;
            }
            return this;
        }

        boolean came() {
            return land.inn(at);
        }
    }

    private Slow() {
    }

    static boolean turns(Land land, int c) {
        return !land.out(c).isEmpty();
    }

    /** All ways to set the posts that turn, all others 0, rising. */
    static List<int[]> ways(Land land) {
        List<int[]> ways = new ArrayList<>();
        fill(land, new int[7], 0, ways);
        return ways;
    }

    private static void fill(Land land, int[] way, int c, List<int[]> ways) {
        if (c == land.size()) {
            ways.add(way.clone());
            return;
        }
        int n = Math.max(1, land.out(c).size());
        for (int r = 0; r < n; r++) {
            way[c] = r;
            fill(land, way, c + 1, ways);
        }
        way[c] = 0;
    }

    static int number(Land land, int[] way) {
        int n = 1;
        for (int c = 0; c < land.size(); c++) {
            n = 10 * n + way[c];
        }
        return n;
    }

    static int walk(Land land, int crossing, int what) {
        if (!land.has(crossing)) {
            return -2;
        }
        Sim sim = new Sim(land, land.post);
        int[] visits = new int[7];
        sim.at = crossing;
        visits[crossing]++;
        while (sim.steps < 499 && sim.step()) {
            visits[sim.at]++;
        }
        if (what == 0) {
            return sim.steps;
        }
        if (what == 1) {
            return sim.at;
        }
        if (what == 2) {
            return sim.came() ? 1 : 0;
        }
        return what >= 10 && what < 10 + land.size() ? visits[what - 10] : -2;
    }

    static int endOf(Land land, int what) {
        Sim sim = new Sim(land, land.post);
        int steps = 0;
        int[] at = new int[7];
        for (int c = 0; c < land.size(); c++) {
            for (int i = 0; i < land.walkers[c]; i++) {
                steps += sim.walk(c).steps;
                at[sim.at]++;
            }
        }
        if (what == 0) {
            return steps;
        }
        if (what >= 10 && what < 10 + land.size()) {
            return at[what - 10];
        }
        return what >= 20 && what < 20 + land.size() ? sim.post[what - 20] : -2;
    }

    static int come(Land land, int c, int k) {
        if (!land.has(c) || k < 1 || k > 99) {
            return NONE;
        }
        Sim sim = new Sim(land, land.post);
        for (int i = 0; i < k; i++) {
            sim.walk(c);
        }
        return sim.at;
    }

    static int share(Land land, int c, int k, int inn) {
        if (!land.has(c) || k < 0 || k > 99 || !land.inn(inn)) {
            return NONE;
        }
        int n = 0;
        for (int i = 1; i <= k; i++) {
            n += come(land, c, i) == inn ? 1 : 0;
        }
        return n;
    }

    static int period(Land land, int c, boolean ahead) {
        if (!land.has(c)) {
            return NONE;
        }
        List<List<Integer>> seen = new ArrayList<>();
        Sim sim = new Sim(land, land.post);
        for (int put = 0; put <= 999; put++) {
            List<Integer> now = new ArrayList<>();
            for (int p : sim.post) {
                now.add(p);
            }
            int before = seen.indexOf(now);
            if (before >= 0) {
                return ahead ? before : put - before;
            }
            seen.add(now);
            sim.walk(c);
        }
        return NONE;
    }

    static int set(Land land, int crossing, int inn, int what) {
        if (!land.has(crossing) || !land.inn(inn)) {
            return NONE;
        }
        List<Integer> subsets = new ArrayList<>();
        for (int bits = 0; bits < 1 << land.size(); bits++) {
            subsets.add(bits);
        }
        subsets.sort((a, b) -> Integer.bitCount(a) != Integer.bitCount(b)
            ? Integer.bitCount(a) - Integer.bitCount(b) : a - b);
        for (int bits : subsets) {
            int[] row = setAnew(land, land.post.clone(), bits, 0, crossing, inn);
            if (row != null) {
                if (what == 0) {
                    return Integer.bitCount(bits);
                }
                if (what == 1) {
                    return bits;
                }
                return what >= 10 && what < 10 + land.size() ? row[what - 10] : NONE;
            }
        }
        return NONE;
    }

    private static int[] setAnew(Land land, int[] row, int bits, int c, int crossing, int inn) {
        if (c == land.size()) {
            return new Sim(land, row).walk(crossing).at == inn ? row.clone() : null;
        }
        if ((bits >> c & 1) == 0) {
            return setAnew(land, row, bits, c + 1, crossing, inn);
        }
        int told = row[c];
        for (int r = 0; r < land.roads.get(c).size(); r++) {
            row[c] = r;
            int[] found = setAnew(land, row, bits, c + 1, crossing, inn);
            if (found != null) {
                return found;
            }
        }
        row[c] = told;
        return null;
    }

    static int fraction(long n, long d, boolean under) {
        for (long f = d; f > 1; f--) {
            if (n % f == 0 && d % f == 0) {
                return (int) ((under ? d : n) / f);
            }
        }
        return (int) (under ? d : n);
    }

    static int lot(Land land, int crossing, int inn, boolean under) {
        if (!land.has(crossing) || !land.inn(inn)) {
            return NONE;
        }
        int n = 0;
        List<int[]> ways = ways(land);
        for (int[] way : ways) {
            n += new Sim(land, way).walk(crossing).at == inn ? 1 : 0;
        }
        return fraction(n, ways.size(), under);
    }

    static int mean(Land land, int crossing, boolean under) {
        if (!land.has(crossing)) {
            return NONE;
        }
        long steps = 0;
        List<int[]> ways = ways(land);
        for (int[] way : ways) {
            Sim sim = new Sim(land, way).walk(crossing);
            if (!sim.came()) {
                return NONE;
            }
            steps += sim.steps;
        }
        return fraction(steps, ways.size(), under);
    }

    static int trees(Land land) {
        int n = 0;
        for (int[] way : ways(land)) {
            boolean all = true;
            for (int c = 0; c < land.size(); c++) {
                if (turns(land, c)) {
                    int at = c;
                    for (int i = 0; i < 20 && turns(land, at); i++) {
                        at = land.roads.get(at).get(way[at]);
                    }
                    all &= land.inn(at);
                }
            }
            n += all ? 1 : 0;
        }
        return n;
    }

    static int game(Land land, int crossing, int n, boolean first) {
        if (!land.has(crossing) || n < 0 || n > 3) {
            return -9;
        }
        if (first) {
            return n == 0 ? NONE : play(new Sim(land, land.post), crossing, n, 0)[1];
        }
        return play(new Sim(land, land.post), crossing, n, 0)[0];
    }

    private static int[] play(Sim sim, int crossing, int n, int turn) {
        if (turn == n) {
            Sim walk = new Sim(sim.land, sim.post).walk(crossing);
            return new int[] {walk.came() ? walk.steps : 500, NONE};
        }
        int[] best = null;
        for (int c = 0; c <= 7; c++) {
            if (c < 7 && sim.next(c) == NONE) {
                continue;
            }
            Sim then = new Sim(sim.land, sim.post);
            if (c < 7) {
                then.post[c] = then.next(c);
            }
            int worth = play(then, crossing, n, turn + 1)[0];
            if (best == null || (turn % 2 == 0 ? worth < best[0] : worth > best[0])) {
                best = new int[] {worth, c};
            }
        }
        return best;
    }

    // ---- roads alone ----

    static int far(Land land, int a, int b) {
        if (!land.has(a) || !land.has(b)) {
            return NONE;
        }
        int big = 1000;
        int[][] d = new int[7][7];
        for (int[] row : d) {
            Arrays.fill(row, big);
        }
        for (int c = 0; c < land.size(); c++) {
            for (int to : land.out(c)) {
                d[c][to] = 1;
            }
            d[c][c] = 0;
        }
        for (int k = 0; k < 7; k++) {
            for (int i = 0; i < 7; i++) {
                for (int j = 0; j < 7; j++) {
                    d[i][j] = Math.min(d[i][j], d[i][k] + d[k][j]);
                }
            }
        }
        return d[a][b] >= big ? NONE : d[a][b];
    }

    static int reach(Land land, int c, int what) {
        if (!land.has(c) || what < 0 || what > 1) {
            return -2;
        }
        int bits = 0;
        int best = NONE;
        for (int b = 0; b < land.size(); b++) {
            int far = far(land, c, b);
            bits |= far != NONE ? 1 << b : 0;
            if (land.inn(b) && far != NONE && (best == NONE || far < far(land, c, best))) {
                best = b;
            }
        }
        return what == 0 ? bits : best;
    }

    static int classes(Land land, int what) {
        int n = land.size();
        int[] in = new int[7];
        int loops = 0;
        int doubles = 0;
        int heads = (1 << n) - 1;
        for (int c = 0; c < n; c++) {
            for (int i = 0; i < land.out(c).size(); i++) {
                int to = land.out(c).get(i);
                in[to]++;
                loops += to == c ? 1 : 0;
                heads &= to == c ? -1 : ~(1 << to);
                for (int j = i + 1; j < land.out(c).size(); j++) {
                    doubles += land.out(c).get(j) == to ? 1 : 0;
                }
            }
        }
        Set<Integer> parts = new HashSet<>();
        int ends = 0;
        int even = 0;
        int busy = NONE;
        for (int c = 0; c < n; c++) {
            int part = 0;
            for (int b = 0; b < n; b++) {
                part |= far(land, c, b) != NONE && far(land, b, c) != NONE ? 1 << b : 0;
            }
            parts.add(part);
            ends |= !land.inn(c) && land.roads.get(c).isEmpty() ? 1 << c : 0;
            even |= in[c] == land.out(c).size() ? 1 << c : 0;
            busy = busy == NONE || in[c] > in[busy] ? c : busy;
        }
        int largest = 0;
        for (int part : parts) {
            largest = Math.max(largest, Integer.bitCount(part));
        }
        int[] answers = {parts.size(), largest, heads, ends, loops, doubles, even, busy};
        return what >= 0 && what < answers.length ? answers[what] : -2;
    }

    static int led(Land land, int c, int what) {
        if (!land.has(c) || what < 0 || what > 2) {
            return -2;
        }
        List<Integer> path = new ArrayList<>();
        int at = c;
        while (turns(land, at) && !path.contains(at)) {
            path.add(at);
            at = land.roads.get(at).get(land.post[at]);
        }
        boolean ring = turns(land, at);
        if (what == 2) {
            return ring ? path.size() - path.indexOf(at) : 0;
        }
        return ring ? NONE : what == 0 ? path.size() : at;
    }

    static int cover(Land land, int c, int what) {
        if (!land.has(c) || what < 0 || what > 3) {
            return -2;
        }
        int reach = reach(land, c, 0);
        Sim sim = new Sim(land, land.post);
        sim.at = c;
        int seen = 1 << c;
        int cover = seen == reach ? 0 : NONE;
        int back = NONE;
        Set<List<Integer>> gone = new HashSet<>();
        while (sim.steps < 499) {
            int from = sim.at;
            if (!sim.step()) {
                break;
            }
            gone.add(List.of(from, sim.lastRoad));
            seen |= 1 << sim.at;
            if (cover == NONE && seen == reach) {
                cover = sim.steps;
            }
            if (back == NONE && sim.at == c) {
                back = sim.steps;
            }
        }
        if (what == 0) {
            return cover;
        }
        if (what == 1) {
            return back;
        }
        if (what == 2) {
            int unused = 0;
            for (int b = 0; b < land.size(); b++) {
                for (int r = 0; (reach >> b & 1) != 0 && r < land.out(b).size(); r++) {
                    unused += gone.contains(List.of(b, r)) ? 0 : 1;
                }
            }
            return unused;
        }
        if (sim.steps < 499 || sim.came()) {
            return NONE;
        }
        int at = sim.at;
        int[] post = sim.post.clone();
        for (int more = 1; more <= 999; more++) {
            if (!sim.step()) {
                return NONE;
            }
            if (sim.at == at && Arrays.equals(post, sim.post)) {
                return more;
            }
        }
        return NONE;
    }

    static int longest(Land land, int c, boolean shortest, boolean which) {
        if (!land.has(c)) {
            return NONE;
        }
        int best = NONE;
        int number = NONE;
        for (int[] way : ways(land)) {
            Sim sim = new Sim(land, way).walk(c);
            if (sim.came() && (best == NONE || (shortest ? sim.steps < best : sim.steps > best))) {
                best = sim.steps;
                number = number(land, way);
            }
        }
        return which ? number : best;
    }

    static int back(Land land, int c) {
        if (!land.has(c)) {
            return NONE;
        }
        int n = 0;
        for (int[] way : ways(land)) {
            Sim sim = new Sim(land, way).walk(c);
            boolean same = true;
            for (int b = 0; b < land.size(); b++) {
                same &= !turns(land, b) || sim.post[b] == land.post[b];
            }
            n += same ? 1 : 0;
        }
        return n;
    }

    static int keys(Land land, int c, boolean first) {
        if (!land.has(c) || !new Sim(land, land.post).walk(c).came()) {
            return -2;
        }
        List<Integer> keys = new ArrayList<>();
        for (int b = 0; b < land.size(); b++) {
            for (int r = 0; r < land.roads.get(b).size(); r++) {
                Sim sim = new Sim(land, land.post);
                sim.shut.add(List.of(b, r));
                if (!sim.walk(c).came()) {
                    keys.add(10 * b + r);
                }
            }
        }
        return !first ? keys.size() : keys.isEmpty() ? NONE : keys.get(0);
    }

    // ---- days ----

    static final class Deed {
        final int kind;
        final int crossing;
        final int road;

        Deed(int kind, int crossing, int road) {
            this.kind = kind;
            this.crossing = crossing;
            this.road = road;
        }

        String text() {
            String word = new String[] {"go", "run", "turn", "add", "shut", "open"}[kind];
            return word + " " + crossing + (kind >= 4 ? " " + road : "") + ";";
        }
    }

    /** A state of a day. */
    static final class Course {
        final Land land;
        final Sim sim;
        final int[] walkers;
        int steps;
        int never;
        int first = NONE;
        int longest;
        int moved;
        int crowd;
        int done;

        Course(Land land) {
            this.land = land;
            sim = new Sim(land, land.post);
            walkers = land.walkers.clone();
            look();
        }

        private void look() {
            for (int c = 0; c < land.size(); c++) {
                crowd = land.inn(c) ? crowd : Math.max(crowd, walkers[c]);
            }
        }

        boolean does(Deed d) {
            int c = d.crossing;
            if (!land.has(c)) {
                return false;
            }
            List<Integer> road = List.of(c, d.road);
            boolean isThere = d.road >= 0 && d.road < land.roads.get(c).size();
            if (d.kind <= 1) {
                if (walkers[c] == 0 || (d.kind == 0 && sim.next(c) == NONE)) {
                    return false;
                }
                if (d.kind == 0) {
                    sim.at = c;
                    sim.step();
                    steps++;
                } else {
                    sim.walk(c);
                    steps += sim.steps;
                    longest = Math.max(longest, sim.steps);
                    never += sim.came() ? 0 : 1;
                }
                walkers[c]--;
                walkers[sim.at]++;
                moved += sim.at != c ? 1 : 0;
                first = first == NONE && sim.came() && !land.inn(c) ? done : first;
            } else if (d.kind == 2) {
                if (sim.next(c) == NONE) {
                    return false;
                }
                sim.post[c] = sim.next(c);
            } else if (d.kind == 3) {
                if (walkers[c] >= 99) {
                    return false;
                }
                walkers[c]++;
            } else if (!isThere || sim.shut.contains(road) != (d.kind == 5)) {
                return false;
            } else if (d.kind == 4) {
                sim.shut.add(road);
            } else {
                sim.shut.remove(road);
            }
            done++;
            look();
            return true;
        }

        int told(int what) {
            int c = what % 10;
            int inns = 0;
            int all = 0;
            for (int b = 0; b < land.size(); b++) {
                inns += land.inn(b) ? walkers[b] : 0;
                all += walkers[b];
            }
            if (what >= 0 && what < 4) {
                return new int[] {steps, inns, all, never}[what];
            }
            if (what < 10 || what > 39 || !land.has(c)) {
                return -2;
            }
            int bits = 0;
            for (int r = 0; r < 4; r++) {
                bits |= sim.shut.contains(List.of(c, r)) ? 1 << r : 0;
            }
            return what < 20 ? sim.post[c] : what < 30 ? walkers[c] : bits;
        }
    }

    static int stop(Land land, List<Deed> day) {
        Course course = new Course(land);
        int n = 0;
        while (n < day.size() && course.does(day.get(n))) {
            n++;
        }
        return n;
    }

    static int state(Land land, List<Deed> day, int n, int what) {
        if (n < 0 || n > stop(land, day)) {
            return -2;
        }
        Course course = new Course(land);
        for (Deed d : day.subList(0, n)) {
            course.does(d);
        }
        return course.told(what);
    }

    static int after(Land land, List<Deed> day, int what) {
        Course course = new Course(land);
        for (Deed d : day.subList(0, stop(land, day))) {
            course.does(d);
        }
        int unlike = 0;
        for (int c = 0; c < land.size(); c++) {
            unlike |= course.sim.post[c] != land.post[c] ? 1 << c : 0;
        }
        int[] answers = {course.first, course.longest, course.moved, course.crowd, unlike};
        return what >= 0 && what < 5 ? answers[what] : -2;
    }

    static int drawn(Land land, int seed, int n, int what) {
        if (n < 0 || n > 60) {
            return -2;
        }
        int[] x = {seed};
        Course course = new Course(land);
        for (int i = 0; i < n; i++) {
            int k = draw(x, 10);
            if (land.size() == 0) {
                continue;
            }
            int kind = k <= 3 ? 0 : k == 4 ? 1 : k == 5 ? 2 : k <= 7 ? 3 : k == 8 ? 4 : 5;
            int c = draw(x, land.size());
            course.does(new Deed(kind, c, kind >= 4 ? draw(x, 4) : NONE));
        }
        return course.told(what);
    }

    private static int draw(int[] x, int n) {
        x[0] = (int) ((x[0] * 1103515245L + 12345L) & 0xffffffffL);
        return (int) (((x[0] & 0xffffffffL) >> 16) % n);
    }

    // ---- logs: a fact is a crossing and an inn, or NONE ----

    /** The ways that fit, each with the posts behind it, and the steps of all facts. */
    static List<int[][]> fitting(Land land, List<int[]> log) {
        List<int[][]> fitting = new ArrayList<>();
        for (int[] way : ways(land)) {
            Sim sim = new Sim(land, way);
            int steps = 0;
            boolean so = true;
            for (int[] fact : log) {
                if (!land.has(fact[0])) {
                    so = false;
                    break;
                }
                sim.walk(fact[0]);
                steps += sim.steps;
                so &= fact[1] == NONE ? !sim.came() : sim.came() && sim.at == fact[1];
            }
            if (so) {
                fitting.add(new int[][] {way, sim.post.clone(), {steps}});
            }
        }
        return fitting;
    }

    static int fits(Land land, List<int[]> log, List<int[][]> fitting, int what) {
        if (what == 0) {
            return fitting.size();
        }
        if (what == 1) {
            return ask(land, fitting);
        }
        if (what >= 2 && what <= 8) {
            Set<Integer> roads = new HashSet<>();
            for (int[][] f : fitting) {
                roads.add(f[0][what - 2]);
            }
            return roads.size() == 1 && land.has(what - 2) ? roads.iterator().next() : NONE;
        }
        return what >= 10 && what - 10 < fitting.size() ? number(land, fitting.get(what - 10)[0]) : -2;
    }

    private static int ask(Land land, List<int[][]> fitting) {
        int best = NONE;
        int bestMost = 0;
        for (int c = 0; c < land.size() && !fitting.isEmpty(); c++) {
            if (!land.inn(c)) {
                List<Integer> places = new ArrayList<>();
                for (int[][] f : fitting) {
                    places.add(new Sim(land, f[1]).walk(c).at);
                }
                int most = 0;
                for (int b = 0; b < 7; b++) {
                    most = Math.max(most, Collections.frequency(places, b));
                }
                if (best == NONE || most < bestMost) {
                    best = c;
                    bestMost = most;
                }
            }
        }
        return best;
    }

    static int odds(Land land, List<int[][]> fitting, int c, int r, boolean under) {
        if (fitting.isEmpty() || !land.has(c) || r < 0 || r >= land.out(c).size()) {
            return NONE;
        }
        int n = 0;
        for (int[][] f : fitting) {
            n += f[0][c] == r ? 1 : 0;
        }
        return fraction(n, fitting.size(), under);
    }

    static int least(List<int[][]> fitting, boolean most) {
        int best = NONE;
        for (int[][] f : fitting) {
            int steps = f[2][0];
            best = best == NONE ? steps : most ? Math.max(best, steps) : Math.min(best, steps);
        }
        return best;
    }
}
