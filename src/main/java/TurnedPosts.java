/** Posts that turn: lands, days and logs told as texts, and what follows from them. */
public final class TurnedPosts {
    public static final int NONE = -1;

    private static final int NO_SUCH = -2;
    private static final int NO_GAME = -9;

    private static final int MOST_CROSSINGS = 7;
    private static final int MOST_ROADS = 4;
    private static final int MOST_DEEDS = 40;
    private static final int MOST_FACTS = 8;
    private static final int MOST_BYTES = 600;
    private static final int MOST_STEPS = 499;
    private static final int MOST_STEPS_MORE = 999;
    private static final int MOST_WALKERS_TOLD = 9;
    private static final int MOST_WALKERS = 99;
    private static final int MOST_PUT = 99;
    private static final int MOST_PUT_BY_PERIOD = 999;
    private static final int MOST_DRAWN = 60;
    private static final int MOST_TURNS = 3;
    private static final int KEPT = 2;
    private static final int IMAGES = 3;

    private static final int LAND = 0;
    private static final int DAY = 1;
    private static final int LOG = 2;

    private static final int CROSS = 0;
    private static final int POST = 1;
    private static final int WALKERS = 2;
    private static final int INN = 3;

    private static final int GO = 0;
    private static final int RUN = 1;
    private static final int TURN = 2;
    private static final int ADD = 3;
    private static final int SHUT = 4;
    private static final int OPEN = 5;

    private static final int CAME = 0;
    private static final int NEVER = 1;

    private static final int BROKEN = 1;
    private static final int CANNOT_BE = 2;
    private static final int TOO_MANY = 3;
    private static final int NO_CROSSING = 4;
    private static final int NO_ROAD = 5;

    private static final int NEVER_COMES = 500;
    private static final int NOTHING_TURNED = 7;

    /** Which DEED a number below ten stands for, when days are drawn. */
    private static final int[] DRAWN_DEEDS = {GO, GO, GO, GO, RUN, TURN, ADD, ADD, SHUT, OPEN};

    private final Told told = new Told();
    private final Told[] images = {new Told(), new Told(), new Told()};
    private final boolean[] imageMade = new boolean[IMAGES];
    private final Reader reader = new Reader();
    private final Posts posts = new Posts();
    private final Course course = new Course();
    private final Trail trail = new Trail();
    private final AllWays firstWays = new AllWays();
    private final AllWays secondWays = new AllWays();
    private final Fitting fitting = new Fitting();
    private final int[] codes = new int[MOST_PUT_BY_PERIOD + 1];

    public TurnedPosts() {
    }

    // ---- what is told ----

    public int feed(int a, int b, int c, int d, int e) {
        if (told.length + 20 > MOST_BYTES) {
            return NONE;
        }
        told.append(a);
        told.append(b);
        told.append(c);
        told.append(d);
        told.append(e);
        return told.length;
    }

    public int end(int n) {
        if (n < 0 || n > told.length) {
            return NONE;
        }
        told.length = n;
        return n;
    }

    public int text(int sort, int at) {
        int number = told.placeFor(sort, at);
        int length = told.length;
        told.length = 0;
        told.fault = 0;
        told.faultPlace = NONE;
        if (number == NO_SUCH) {
            return NO_SUCH;
        }
        reader.read(told.tape, length, sort);
        told.fault = reader.fault;
        told.faultPlace = reader.faultPlace;
        if (reader.fault != 0) {
            return NONE;
        }
        told.keep(sort, number, reader);
        forgetWhatFollows(sort == LAND);
        return number;
    }

    /** What was worked out of the texts holds no longer when they change. */
    private void forgetWhatFollows(boolean ofLands) {
        fitting.made = false;
        if (ofLands) {
            firstWays.made = false;
            secondWays.made = false;
        }
    }

    public int fault(int what) {
        return what == 0 ? told.fault : what == 1 ? told.faultPlace : NONE;
    }

    public int count(int sort) {
        return sort >= LAND && sort <= LOG ? told.kept[sort] : NO_SUCH;
    }

    public boolean image(int k) {
        if (k < 0 || k >= IMAGES) {
            return false;
        }
        images[k].takeAll(told);
        imageMade[k] = true;
        return true;
    }

    public boolean again(int k) {
        if (k < 0 || k >= IMAGES || !imageMade[k]) {
            return false;
        }
        told.takeAll(images[k]);
        forgetWhatFollows(true);
        return true;
    }

    public int land(int land, int what) {
        Land of = told.landAt(land);
        return of == null ? NONE : of.told(what);
    }

    public int deed(int day, int k, int what) {
        Day of = told.dayAt(day);
        return of == null ? NO_SUCH : of.told(k, what);
    }

    public int fact(int log, int k, int what) {
        Log of = told.logAt(log);
        return of == null ? NO_SUCH : of.told(k, what);
    }

    // ---- days ----

    public int stop(int land, int day) {
        Land of = told.landAt(land);
        Day by = told.dayAt(day);
        return of == null || by == null ? NONE : course.goThrough(of, by, MOST_DEEDS);
    }

    public int state(int land, int day, int n, int what) {
        Land of = told.landAt(land);
        Day by = told.dayAt(day);
        if (of == null || by == null || n < 0 || n > by.deeds) {
            return NO_SUCH;
        }
        return course.goThrough(of, by, n) == n ? course.told(what) : NO_SUCH;
    }

    public int after(int land, int day, int what) {
        Land of = told.landAt(land);
        Day by = told.dayAt(day);
        if (of == null || by == null) {
            return NO_SUCH;
        }
        course.goThrough(of, by, MOST_DEEDS);
        return course.toldAfter(what);
    }

    public int drawn(int land, int seed, int n, int what) {
        Land of = told.landAt(land);
        if (of == null || n < 0 || n > MOST_DRAWN) {
            return NO_SUCH;
        }
        course.draw(of, seed, n);
        return course.told(what);
    }

    // ---- walks, one behind the other ----

    public int walk(int land, int crossing, int what) {
        Land of = told.landAt(land);
        if (of == null || !of.has(crossing)) {
            return NO_SUCH;
        }
        trail.follow(of, crossing);
        switch (what) {
            case 0: return trail.steps;
            case 1: return trail.where;
            case 2: return of.isInn(trail.where) ? 1 : 0;
            default: return of.has(what - 10) ? trail.visits[what - 10] : NO_SUCH;
        }
    }

    public int cover(int land, int crossing, int what) {
        Land of = told.landAt(land);
        if (of == null || !of.has(crossing)) {
            return NO_SUCH;
        }
        trail.follow(of, crossing);
        switch (what) {
            case 0: return trail.covered;
            case 1: return trail.returned;
            case 2: return trail.unused();
            case 3: return trail.round();
            default: return NO_SUCH;
        }
    }

    public int endOf(int land, int what) {
        Land of = told.landAt(land);
        if (of == null) {
            return NO_SUCH;
        }
        course.goAll(of);
        if (what == 0) {
            return course.steps;
        }
        if (of.has(what - 10)) {
            return course.walkers[what - 10];
        }
        return of.has(what - 20) ? course.posts.post[what - 20] : NO_SUCH;
    }

    public int come(int land, int crossing, int k) {
        Land of = told.landAt(land);
        if (of == null || !of.has(crossing) || k < 1 || k > MOST_PUT) {
            return NONE;
        }
        posts.begin(of);
        for (int i = 0; i < k; i++) {
            posts.run(crossing);
        }
        return posts.where;
    }

    public int share(int land, int crossing, int k, int inn) {
        Land of = told.landAt(land);
        if (of == null || !of.has(crossing) || !of.isInn(inn) || k < 0 || k > MOST_PUT) {
            return NONE;
        }
        int share = 0;
        posts.begin(of);
        for (int i = 0; i < k; i++) {
            posts.run(crossing);
            if (posts.where == inn) {
                share++;
            }
        }
        return share;
    }

    public int period(int land, int crossing, boolean ahead) {
        Land of = told.landAt(land);
        if (of == null || !of.has(crossing)) {
            return NONE;
        }
        posts.begin(of);
        codes[0] = posts.code();
        for (int put = 1; put <= MOST_PUT_BY_PERIOD; put++) {
            posts.run(crossing);
            int code = posts.code();
            int fewer = placeOfCode(code, put);
            if (fewer != NONE) {
                return ahead ? fewer : put - fewer;
            }
            codes[put] = code;
        }
        return NONE;
    }

    private int placeOfCode(int code, int before) {
        for (int i = 0; i < before && i < codes.length; i++) {
            if (codes[i] == code) {
                return i;
            }
        }
        return NONE;
    }

    public int keys(int land, int crossing, boolean first) {
        Land of = told.landAt(land);
        if (of == null || !of.has(crossing)) {
            return NO_SUCH;
        }
        posts.begin(of);
        posts.run(crossing);
        if (!of.isInn(posts.where)) {
            return NO_SUCH;
        }
        int keys = 0;
        int firstKey = NONE;
        for (int c = 0; c < of.crossings; c++) {
            for (int r = 0; r < of.waysOut(c); r++) {
                if (isKey(of, crossing, c, r)) {
                    keys++;
                    firstKey = firstKey == NONE ? 10 * c + r : firstKey;
                }
            }
        }
        return first ? firstKey : keys;
    }

    private boolean isKey(Land of, int crossing, int c, int r) {
        posts.begin(of);
        posts.shutRoad(c, r);
        posts.run(crossing);
        return !of.isInn(posts.where);
    }

    // ---- all ways to set the posts ----

    /** The table of a LAND that is there. */
    private AllWays waysIn(int land, Land of) {
        AllWays all = land == 0 ? firstWays : secondWays;
        all.make(of);
        return all;
    }

    public int set(int land, int crossing, int inn, int what) {
        Land of = told.landAt(land);
        if (of == null || !of.has(crossing) || !of.isInn(inn)) {
            return NONE;
        }
        AllWays all = waysIn(land, of);
        int way = all.nearestWay(crossing, inn);
        if (way == NONE) {
            return NONE;
        }
        int changed = all.unlike(way, all.wayTold());
        if (what == 0) {
            return Integer.bitCount(changed);
        }
        if (what == 1) {
            return changed;
        }
        int c = what - 10;
        if (!of.has(c)) {
            return NONE;
        }
        return of.waysOut(c) > 0 ? all.road(way, c) : of.post[c];
    }

    public int lot(int land, int crossing, int inn, boolean under) {
        Land of = told.landAt(land);
        if (of == null || !of.has(crossing) || !of.isInn(inn)) {
            return NONE;
        }
        AllWays all = waysIn(land, of);
        int come = 0;
        for (int way = 0; way < all.ways; way++) {
            if (all.where(way, crossing) == inn) {
                come++;
            }
        }
        return inLeastTerms(come, all.ways, under);
    }

    public int mean(int land, int crossing, boolean under) {
        Land of = told.landAt(land);
        if (of == null || !of.has(crossing)) {
            return NONE;
        }
        AllWays all = waysIn(land, of);
        int steps = 0;
        for (int way = 0; way < all.ways; way++) {
            if (!of.isInn(all.where(way, crossing))) {
                return NONE;
            }
            steps += all.steps(way, crossing);
        }
        return inLeastTerms(steps, all.ways, under);
    }

    private static int inLeastTerms(int over, int under, boolean wantsUnder) {
        int a = over;
        int b = under;
        for (int i = 0; i < 100 && b != 0; i++) {
            int rest = a % b;
            a = b;
            b = rest;
        }
        int part = wantsUnder ? under : over;
        return a == 0 ? part : part / a;
    }

    public int trees(int land) {
        Land of = told.landAt(land);
        if (of == null) {
            return NONE;
        }
        AllWays all = land == 0 ? firstWays : secondWays;
        return all.treesOf(of);
    }

    public int longest(int land, int crossing, boolean shortest, boolean which) {
        Land of = told.landAt(land);
        if (of == null || !of.has(crossing)) {
            return NONE;
        }
        AllWays all = waysIn(land, of);
        int best = NONE;
        int bestWay = NONE;
        for (int way = 0; way < all.ways; way++) {
            int steps = all.steps(way, crossing);
            boolean better = best == NONE || (shortest ? steps < best : steps > best);
            if (better && of.isInn(all.where(way, crossing))) {
                best = steps;
                bestWay = way;
            }
        }
        return which && bestWay != NONE ? all.number(bestWay) : best;
    }

    public int back(int land, int crossing) {
        Land of = told.landAt(land);
        if (of == null || !of.has(crossing)) {
            return NONE;
        }
        AllWays all = waysIn(land, of);
        int asTold = all.wayTold();
        int back = 0;
        for (int way = 0; way < all.ways; way++) {
            if (all.wayAfter(way, crossing) == asTold) {
                back++;
            }
        }
        return back;
    }

    public int game(int land, int crossing, int n, boolean first) {
        Land of = told.landAt(land);
        if (of == null || !of.has(crossing) || n < 0 || n > MOST_TURNS) {
            return NO_GAME;
        }
        AllWays all = waysIn(land, of);
        int way = all.wayTold();
        int worth = worth(all, way, crossing, n, true);
        if (!first) {
            return worth;
        }
        return n == 0 ? NONE : bestTurn(all, way, crossing, n, worth);
    }

    /** The STEPS that a GAME comes to, some turns being left, the next one of him who wants fewest or of the other. */
    private static int worth(AllWays all, int way, int crossing, int left, boolean fewest) {
        if (left <= 0 || left > MOST_TURNS) {
            return all.stepsOrNever(way, crossing);
        }
        int best = NONE;
        for (int turn = 0; turn <= NOTHING_TURNED; turn++) {
            int then = turn == NOTHING_TURNED ? way : all.turned(way, turn);
            if (then != NONE) {
                int worth = worth(all, then, crossing, left - 1, !fewest);
                best = best == NONE || (fewest ? worth < best : worth > best) ? worth : best;
            }
        }
        return best;
    }

    private static int bestTurn(AllWays all, int way, int crossing, int n, int best) {
        for (int turn = 0; turn < NOTHING_TURNED; turn++) {
            int then = all.turned(way, turn);
            if (then != NONE && worth(all, then, crossing, n - 1, false) == best) {
                return turn;
            }
        }
        return NOTHING_TURNED;
    }

    // ---- logs ----

    /** Works out what FITS; false if there is no such LAND or LOG. */
    private boolean fit(int land, int log) {
        Land of = told.landAt(land);
        Log by = told.logAt(log);
        if (of == null || by == null) {
            return false;
        }
        if (!fitting.made || fitting.land != land || fitting.log != log) {
            fitting.find(waysIn(land, of), by);
            fitting.land = land;
            fitting.log = log;
            fitting.made = true;
        }
        return true;
    }

    public int fits(int land, int log, int what) {
        Land of = told.landAt(land);
        if (!fit(land, log) || of == null || what < 0) {
            return NO_SUCH;
        }
        AllWays all = waysIn(land, of);
        if (what == 0) {
            return fitting.found;
        }
        if (what == 1) {
            return fitting.ask(all);
        }
        if (what < 2 + MOST_CROSSINGS) {
            return fitting.sure(all, what - 2);
        }
        int k = what - 10;
        return k >= 0 && k < fitting.found ? all.number(fitting.way(k)) : NO_SUCH;
    }

    public int odds(int land, int log, int crossing, int road, boolean under) {
        Land of = told.landAt(land);
        // An INN has no ROADS here, so none that its POST could point to.
        if (!fit(land, log) || of == null || road < 0 || road >= of.waysOut(crossing)) {
            return NONE;
        }
        if (fitting.found == 0) {
            return NONE;
        }
        int pointing = fitting.pointing(waysIn(land, of), crossing, road);
        return inLeastTerms(pointing, fitting.found, under);
    }

    public int least(int land, int log, boolean most) {
        if (!fit(land, log) || fitting.found == 0) {
            return NONE;
        }
        return most ? fitting.most : fitting.least;
    }

    // ---- the land's roads ----

    public int far(int land, int a, int b) {
        Land of = told.landAt(land);
        return of == null || !of.has(a) || !of.has(b) ? NONE : Roads.distance(of, a, b);
    }

    public int reach(int land, int crossing, int what) {
        Land of = told.landAt(land);
        if (of == null || !of.has(crossing) || what < 0 || what > 1) {
            return NO_SUCH;
        }
        return what == 0 ? Roads.reached(of, crossing) : Roads.nearest(of, crossing);
    }

    public int classes(int land, int what) {
        Land of = told.landAt(land);
        if (of == null) {
            return NO_SUCH;
        }
        switch (what) {
            case 0: return Roads.parts(of, false);
            case 1: return Roads.parts(of, true);
            case 2: return Roads.heads(of);
            case 3: return Roads.ends(of);
            case 4: return Roads.loops(of);
            case 5: return Roads.doubles(of);
            case 6: return Roads.even(of);
            case 7: return Roads.busy(of);
            default: return NO_SUCH;
        }
    }

    public int led(int land, int crossing, int what) {
        Land of = told.landAt(land);
        if (of == null || !of.has(crossing) || what < 0 || what > 2) {
            return NO_SUCH;
        }
        int at = crossing;
        for (int steps = 0; steps <= of.crossings; steps++) {
            if (of.waysOut(at) == 0) {
                return what == 0 ? steps : what == 1 ? at : 0;
            }
            at = of.target(at, of.post[at]);
        }
        return what == 2 ? Roads.ring(of, at) : NONE;
    }

    // ---- what is told, as it is held ----

    /** A LAND as told; what it is asked for out of its bounds is not there. */
    private static final class Land {
        int crossings;
        int inns;
        final int[] roads = new int[MOST_CROSSINGS];
        final int[] leads = new int[MOST_CROSSINGS * MOST_ROADS];
        final int[] post = new int[MOST_CROSSINGS];
        final int[] walkers = new int[MOST_CROSSINGS];

        void clear() {
            crossings = 0;
            inns = 0;
            for (int c = 0; c < MOST_CROSSINGS; c++) {
                roads[c] = 0;
                post[c] = 0;
                walkers[c] = 0;
            }
        }

        void takeAll(Land other) {
            crossings = other.crossings;
            inns = other.inns;
            for (int c = 0; c < MOST_CROSSINGS; c++) {
                roads[c] = other.roads[c];
                post[c] = other.post[c];
                walkers[c] = other.walkers[c];
            }
            for (int i = 0; i < MOST_CROSSINGS * MOST_ROADS; i++) {
                leads[i] = other.leads[i];
            }
        }

        boolean has(int c) {
            return c >= 0 && c < crossings && c < MOST_CROSSINGS;
        }

        boolean isInn(int c) {
            return has(c) && (inns >> c & 1) != 0;
        }

        boolean hasRoad(int c, int r) {
            return c >= 0 && c < crossings && c < MOST_CROSSINGS && r >= 0 && r < roads[c] && r < MOST_ROADS;
        }

        /** How many ROADS one may go from there: none from an INN. */
        int waysOut(int c) {
            return c >= 0 && c < crossings && c < MOST_CROSSINGS && (inns >> c & 1) == 0 ? roads[c] : 0;
        }

        int target(int c, int r) {
            return hasRoad(c, r) ? leads[c * MOST_ROADS + r] : NONE;
        }

        void addRoad(int c, int to) {
            if (has(c) && roads[c] < MOST_ROADS) {
                leads[c * MOST_ROADS + roads[c]] = to;
                roads[c]++;
            }
        }

        int told(int what) {
            if (what == 0) {
                return crossings;
            }
            if (what == 1) {
                return inns;
            }
            if (what >= 100) {
                return target((what - 100) / 10, (what - 100) % 10);
            }
            int c = what % 10;
            if (!has(c)) {
                return NONE;
            }
            switch (what / 10) {
                case 1: return roads[c];
                case 2: return post[c];
                case 3: return walkers[c];
                default: return NONE;
            }
        }
    }

    /** A DAY as told. */
    private static final class Day {
        int deeds;
        final int[] kind = new int[MOST_DEEDS];
        final int[] crossing = new int[MOST_DEEDS];
        final int[] road = new int[MOST_DEEDS];

        void takeAll(Day other) {
            deeds = other.deeds;
            for (int k = 0; k < MOST_DEEDS; k++) {
                kind[k] = other.kind[k];
                crossing[k] = other.crossing[k];
                road[k] = other.road[k];
            }
        }

        void add(int which, int c, int r) {
            if (deeds >= 0 && deeds < MOST_DEEDS) {
                kind[deeds] = which;
                crossing[deeds] = c;
                road[deeds] = r;
                deeds++;
            }
        }

        int told(int k, int what) {
            if (k == NONE && what == 0) {
                return deeds;
            }
            if (k < 0 || k >= deeds || k >= MOST_DEEDS) {
                return NO_SUCH;
            }
            switch (what) {
                case 0: return kind[k];
                case 1: return crossing[k];
                case 2: return road[k];
                default: return NO_SUCH;
            }
        }
    }

    /** A LOG as told. */
    private static final class Log {
        int facts;
        final int[] crossing = new int[MOST_FACTS];
        final int[] inn = new int[MOST_FACTS];

        void takeAll(Log other) {
            facts = other.facts;
            for (int k = 0; k < MOST_FACTS; k++) {
                crossing[k] = other.crossing[k];
                inn[k] = other.inn[k];
            }
        }

        void add(int c, int to) {
            if (facts >= 0 && facts < MOST_FACTS) {
                crossing[facts] = c;
                inn[facts] = to;
                facts++;
            }
        }

        int told(int k, int what) {
            if (k == NONE && what == 0) {
                return facts;
            }
            if (k < 0 || k >= facts || k >= MOST_FACTS || what < 0 || what > 1) {
                return NO_SUCH;
            }
            return what == 0 ? crossing[k] : inn[k];
        }
    }

    /** All that is told: the tape, the FAULT, and the texts that were taken. */
    private static final class Told {
        final byte[] tape = new byte[MOST_BYTES];
        int length;
        int fault;
        int faultPlace = NONE;
        final int[] kept = new int[LOG + 1];
        final Land[] lands = {new Land(), new Land()};
        final Day[] days = {new Day(), new Day()};
        final Log[] logs = {new Log(), new Log()};

        void append(int number) {
            for (int shift = 24; shift >= 0; shift -= 8) {
                if (length < MOST_BYTES) {
                    tape[length] = (byte) (number >> shift);
                    length++;
                }
            }
        }

        /** The number that a text told now would have. */
        int placeFor(int sort, int at) {
            if (sort < LAND || sort > LOG) {
                return NO_SUCH;
            }
            if (at == NONE) {
                return kept[sort] < KEPT ? kept[sort] : NO_SUCH;
            }
            return at >= 0 && at < kept[sort] ? at : NO_SUCH;
        }

        void keep(int sort, int number, Reader reader) {
            if (sort < LAND || sort > LOG || number < 0 || number >= KEPT) {
                return;
            }
            if (sort == LAND) {
                lands[number].takeAll(reader.land);
            } else if (sort == DAY) {
                days[number].takeAll(reader.day);
            } else {
                logs[number].takeAll(reader.log);
            }
            kept[sort] = Math.max(kept[sort], number + 1);
        }

        void takeAll(Told other) {
            for (int i = 0; i < MOST_BYTES; i++) {
                tape[i] = other.tape[i];
            }
            length = other.length;
            fault = other.fault;
            faultPlace = other.faultPlace;
            for (int sort = LAND; sort <= LOG; sort++) {
                kept[sort] = other.kept[sort];
            }
            for (int i = 0; i < KEPT; i++) {
                lands[i].takeAll(other.lands[i]);
                days[i].takeAll(other.days[i]);
                logs[i].takeAll(other.logs[i]);
            }
        }

        /** The LAND of a number, null if there is none. */
        Land landAt(int i) {
            return i >= 0 && i < kept[LAND] && i < KEPT ? lands[i] : null;
        }

        Day dayAt(int i) {
            return i >= 0 && i < kept[DAY] && i < KEPT ? days[i] : null;
        }

        Log logAt(int i) {
            return i >= 0 && i < kept[LOG] && i < KEPT ? logs[i] : null;
        }
    }

    // ---- reading ----

    /** Reads a tape as a text, token by token, into a LAND, a DAY or a LOG of its own, and finds the FAULT. */
    private static final class Reader {
        private static final int TAPE_END = 0;
        private static final int WORD = 1;
        private static final int NUMBER = 2;
        private static final int SEMICOLON = 3;
        private static final int NO_TOKEN = 4;

        final Land land = new Land();
        final Day day = new Day();
        final Log log = new Log();
        int fault;
        int faultPlace;
        private byte[] tape = new byte[0];
        private int length;
        private int at;
        private int token;
        private int place;
        private int value;
        private boolean broken;
        private int toldOf;

        void read(byte[] bytes, int howMany, int sort) {
            tape = bytes;
            length = Math.min(howMany, bytes.length);
            at = 0;
            fault = 0;
            faultPlace = NONE;
            broken = false;
            toldOf = 0;
            land.clear();
            day.deeds = 0;
            log.facts = 0;
            nextToken();
            for (int lines = 0; lines <= MOST_BYTES && !broken && token != TAPE_END; lines++) {
                readLine(sort);
            }
            if (sort == LAND) {
                lookAtWhole();
            }
        }

        /** A text that breaks off has no other FAULT, whatever was noted. */
        private void breakHere() {
            if (!broken) {
                broken = true;
                fault = BROKEN;
                faultPlace = place;
            }
        }

        /** The places rise as one reads, so the first that is noted stands. */
        private void note(int which, int where) {
            if (fault == 0) {
                fault = which;
                faultPlace = where;
            }
        }

        private void lookAtWhole() {
            if (toldOf >> land.crossings != 0) {
                note(NO_CROSSING, length);
            }
            for (int c = 0; c < MOST_CROSSINGS; c++) {
                if (land.post[c] != 0 && land.post[c] >= land.roads[c]) {
                    note(NO_ROAD, length);
                }
            }
        }

        private void readLine(int sort) {
            int word = token == WORD ? wordOf(sort) : NONE;
            if (word == NONE) {
                breakHere();
                return;
            }
            if (sort == DAY) {
                readDeed(word);
            } else if (sort == LOG) {
                readFact(word);
            } else if (word == CROSS) {
                readCrossing();
            } else {
                readOther(word);
            }
            if (token == SEMICOLON) {
                nextToken();
            } else {
                breakHere();
            }
        }

        private void readCrossing() {
            int c = land.crossings;
            if (c >= MOST_CROSSINGS) {
                note(TOO_MANY, place);
            } else {
                land.crossings++;
            }
            nextToken();
            int roads = 0;
            for (int i = 0; i <= MOST_BYTES && token == NUMBER; i++) {
                int where = place;
                int to = readNumber(MOST_CROSSINGS - 1);
                if (roads >= MOST_ROADS) {
                    note(TOO_MANY, where);
                }
                roads++;
                land.addRoad(c, to);
                tellOf(to);
            }
        }

        private void readOther(int word) {
            nextToken();
            int c = readNumber(MOST_CROSSINGS - 1);
            tellOf(c);
            if (word == INN) {
                land.inns |= c >= 0 && c < MOST_CROSSINGS ? 1 << c : 0;
                return;
            }
            int n = readNumber(word == POST ? MOST_ROADS - 1 : MOST_WALKERS_TOLD);
            if (c < 0 || c >= MOST_CROSSINGS) {
                return;
            }
            if (word == POST) {
                land.post[c] = n;
            } else {
                land.walkers[c] = n;
            }
        }

        private void readDeed(int word) {
            if (day.deeds >= MOST_DEEDS) {
                note(TOO_MANY, place);
            }
            nextToken();
            int c = readNumber(MOST_CROSSINGS - 1);
            int r = word == SHUT || word == OPEN ? readNumber(MOST_ROADS - 1) : NONE;
            day.add(word, c, r);
        }

        private void readFact(int word) {
            if (log.facts >= MOST_FACTS) {
                note(TOO_MANY, place);
            }
            nextToken();
            int c = readNumber(MOST_CROSSINGS - 1);
            int to = word == CAME ? readNumber(MOST_CROSSINGS - 1) : NONE;
            log.add(c, to);
        }

        private void tellOf(int c) {
            if (c >= 0 && c < MOST_CROSSINGS) {
                toldOf |= 1 << c;
            }
        }

        /** The NUMBER that has to come now, up to a greatest one. */
        private int readNumber(int greatest) {
            if (broken || token != NUMBER) {
                breakHere();
                return 0;
            }
            int number = value;
            if (number > greatest) {
                note(CANNOT_BE, place);
            }
            nextToken();
            return number;
        }

        private void nextToken() {
            for (int i = at; i < length && isBlank(tape[i]); i++) {
                at = i + 1;
            }
            place = at;
            if (at >= length) {
                token = TAPE_END;
            } else if (isLetter(tape[at])) {
                takeLetters();
            } else if (isDigit(tape[at])) {
                takeDigits();
            } else {
                token = tape[at] == ';' ? SEMICOLON : NO_TOKEN;
                at++;
            }
        }

        private void takeLetters() {
            token = WORD;
            while (at < length && isLetter(tape[at])) {
                at++;
            }
        }

        private void takeDigits() {
            value = 0;
            while (at < length && isDigit(tape[at])) {
                value = Math.min(value * 10 + tape[at] - '0', 1000);
                at++;
            }
            token = at - place <= 2 ? NUMBER : NO_TOKEN;
        }

        private static boolean isBlank(int b) {
            return b == 10 || b == 32;
        }

        private static boolean isLetter(int b) {
            return b >= 'a' && b <= 'z';
        }

        private static boolean isDigit(int b) {
            return b >= '0' && b <= '9';
        }

        /** Which of the words of a sort the token is. */
        private int wordOf(int sort) {
            if (sort == LAND) {
                return reads("cross") ? CROSS : reads("post") ? POST : reads("walkers") ? WALKERS : reads("inn") ? INN : NONE;
            }
            if (sort == LOG) {
                return reads("came") ? CAME : reads("never") ? NEVER : NONE;
            }
            if (reads("go")) {
                return GO;
            }
            if (reads("run")) {
                return RUN;
            }
            if (reads("turn")) {
                return TURN;
            }
            if (reads("add")) {
                return ADD;
            }
            return reads("shut") ? SHUT : reads("open") ? OPEN : NONE;
        }

        private boolean reads(String word) {
            if (at - place != word.length() || place < 0 || at > length) {
                return false;
            }
            for (int i = 0; i < word.length(); i++) {
                if (tape[place + i] != word.charAt(i)) {
                    return false;
                }
            }
            return true;
        }
    }

    // ---- walking ----

    /** The POSTS of a LAND as they turn, and the ROADS that are shut. */
    private static final class Posts {
        Land land = new Land();
        final int[] post = new int[MOST_CROSSINGS];
        final int[] shut = new int[MOST_CROSSINGS];
        int steps;
        int where;
        private final int[] waysOut = new int[MOST_CROSSINGS];

        void begin(Land of) {
            land = of;
            steps = 0;
            where = 0;
            for (int c = 0; c < MOST_CROSSINGS; c++) {
                post[c] = of.post[c];
                shut[c] = 0;
                waysOut[c] = of.waysOut(c);
            }
        }

        boolean isShut(int c, int r) {
            return land.hasRoad(c, r) && (shut[c] >> r & 1) != 0;
        }

        void shutRoad(int c, int r) {
            if (land.hasRoad(c, r)) {
                shut[c] |= 1 << r;
            }
        }

        void openRoad(int c, int r) {
            if (land.hasRoad(c, r)) {
                shut[c] &= ~(1 << r);
            }
        }

        /** Turns the POST there as if one STEPPED: the ROAD to which it points then, NONE if one can't. */
        int turn(int c) {
            if (c < 0 || c >= MOST_CROSSINGS) {
                return NONE;
            }
            int roads = waysOut[c];
            int closed = shut[c];
            int r = post[c];
            for (int tried = 0; tried < roads; tried++) {
                r = r + 1 < roads ? r + 1 : 0;
                if ((closed >> r & 1) == 0) {
                    post[c] = r;
                    return r;
                }
            }
            return NONE;
        }

        /** One there STEPS: where to, NONE if he can't. */
        int step(int c) {
            int r = turn(c);
            int i = c * MOST_ROADS + r;
            return r >= 0 && i < MOST_CROSSINGS * MOST_ROADS ? land.leads[i] : NONE;
        }

        /** One goes from there by a WALK. */
        void run(int from) {
            where = from;
            steps = 0;
            for (int i = 0; i < MOST_STEPS; i++) {
                int to = step(where);
                if (to == NONE) {
                    return;
                }
                where = to;
                steps++;
            }
        }

        /** All POSTS as one number. */
        int code() {
            int code = 0;
            for (int c = 0; c < MOST_CROSSINGS; c++) {
                code = code * MOST_ROADS + post[c];
            }
            return code;
        }
    }

    /** A WALK with all that is seen on its way. */
    private static final class Trail {
        final Posts posts = new Posts();
        final int[] visits = new int[MOST_CROSSINGS];
        final int[] gone = new int[MOST_CROSSINGS];
        int reached;
        int steps;
        int where;
        int covered;
        int returned;

        void follow(Land land, int from) {
            posts.begin(land);
            for (int c = 0; c < MOST_CROSSINGS; c++) {
                visits[c] = 0;
                gone[c] = 0;
            }
            reached = Roads.reached(land, from);
            steps = 0;
            returned = NONE;
            covered = NONE;
            int seen = arrive(from, 0);
            for (int i = 0; i < MOST_STEPS; i++) {
                int to = posts.step(where);
                if (to == NONE) {
                    return;
                }
                gone[where] |= 1 << posts.post[where];
                steps++;
                returned = to == from && returned == NONE ? steps : returned;
                seen = arrive(to, seen);
            }
        }

        /** He is there now; answers where he has been (bits). */
        private int arrive(int c, int before) {
            where = c;
            if (c < 0 || c >= MOST_CROSSINGS) {
                return before;
            }
            visits[c]++;
            int seen = before | 1 << c;
            covered = covered == NONE && seen == reached ? steps : covered;
            return seen;
        }

        int unused() {
            int unused = 0;
            for (int c = 0; c < posts.land.crossings; c++) {
                if ((reached >> c & 1) != 0) {
                    unused += posts.land.waysOut(c) - Integer.bitCount(gone[c]);
                }
            }
            return unused;
        }

        int round() {
            if (steps < MOST_STEPS || posts.land.isInn(where)) {
                return NONE;
            }
            int code = posts.code();
            int at = where;
            for (int more = 1; more <= MOST_STEPS_MORE; more++) {
                at = posts.step(at);
                if (at == NONE) {
                    return NONE;
                }
                if (at == where && posts.code() == code) {
                    return more;
                }
            }
            return NONE;
        }
    }

    /** A DAY as it goes, told or drawn. */
    private static final class Course {
        final Posts posts = new Posts();
        final int[] walkers = new int[MOST_CROSSINGS];
        int steps;
        private Land land = new Land();
        private int never;
        private int done;
        private int firstCame;
        private int longestRun;
        private int moved;
        private int crowd;
        private int seed;

        private void begin(Land of) {
            land = of;
            posts.begin(of);
            for (int c = 0; c < MOST_CROSSINGS; c++) {
                walkers[c] = of.walkers[c];
            }
            steps = 0;
            never = 0;
            done = 0;
            firstCame = NONE;
            longestRun = 0;
            moved = 0;
            crowd = 0;
            lookAtCrowd();
        }

        /** Goes through the first n DEEDS, as far as they can be: how many were. */
        int goThrough(Land of, Day day, int n) {
            begin(of);
            for (int k = 0; k < n && k < day.deeds && k < MOST_DEEDS; k++) {
                if (!does(day.kind[k], day.crossing[k], day.road[k])) {
                    return done;
                }
            }
            return done;
        }

        void draw(Land of, int x, int n) {
            begin(of);
            seed = x;
            for (int i = 0; i < n && i < MOST_DRAWN; i++) {
                int deed = DRAWN_DEEDS[drawBelow(DRAWN_DEEDS.length)];
                if (of.crossings > 0) {
                    int c = drawBelow(of.crossings);
                    int r = deed == SHUT || deed == OPEN ? drawBelow(MOST_ROADS) : NONE;
                    does(deed, c, r);
                }
            }
        }

        private int drawBelow(int n) {
            seed = seed * 1103515245 + 12345;
            return n < 1 ? 0 : (seed >>> 16) % n;
        }

        /** All WALKERS as told go to their ends. */
        void goAll(Land of) {
            begin(of);
            for (int c = 0; c < of.crossings && c < MOST_CROSSINGS; c++) {
                for (int i = 0; i < of.walkers[c]; i++) {
                    run(c);
                }
            }
        }

        /** Does a DEED; false if it can't be. */
        private boolean does(int deed, int c, int r) {
            boolean did;
            switch (deed) {
                case GO: did = go(c); break;
                case RUN: did = run(c); break;
                case TURN: did = posts.turn(c) != NONE; break;
                case ADD: did = add(c); break;
                case SHUT: did = shut(c, r); break;
                case OPEN: did = open(c, r); break;
                default: did = false; break;
            }
            if (did) {
                done++;
                lookAtCrowd();
            }
            return did;
        }

        private boolean go(int c) {
            if (!land.has(c) || walkers[c] < 1) {
                return false;
            }
            int to = posts.step(c);
            if (to == NONE) {
                return false;
            }
            steps++;
            move(c, to);
            return true;
        }

        private boolean run(int c) {
            if (!land.has(c) || walkers[c] < 1) {
                return false;
            }
            posts.run(c);
            steps += posts.steps;
            longestRun = Math.max(longestRun, posts.steps);
            if (!land.isInn(posts.where)) {
                never++;
            }
            move(c, posts.where);
            return true;
        }

        private void move(int from, int to) {
            if (!land.has(from) || !land.has(to)) {
                return;
            }
            walkers[from]--;
            walkers[to]++;
            if (from != to) {
                moved++;
            }
            if (firstCame == NONE && land.isInn(to) && !land.isInn(from)) {
                firstCame = done;
            }
        }

        private boolean add(int c) {
            if (!land.has(c) || walkers[c] >= MOST_WALKERS) {
                return false;
            }
            walkers[c]++;
            return true;
        }

        private boolean shut(int c, int r) {
            boolean may = land.hasRoad(c, r) && !posts.isShut(c, r);
            if (may) {
                posts.shutRoad(c, r);
            }
            return may;
        }

        private boolean open(int c, int r) {
            boolean may = posts.isShut(c, r);
            if (may) {
                posts.openRoad(c, r);
            }
            return may;
        }

        private void lookAtCrowd() {
            for (int c = 0; c < land.crossings && c < MOST_CROSSINGS; c++) {
                if (!land.isInn(c)) {
                    crowd = Math.max(crowd, walkers[c]);
                }
            }
        }

        private int walkersInAll(boolean atInnsAlone) {
            int all = 0;
            for (int c = 0; c < land.crossings && c < MOST_CROSSINGS; c++) {
                all += !atInnsAlone || land.isInn(c) ? walkers[c] : 0;
            }
            return all;
        }

        int told(int what) {
            switch (what) {
                case 0: return steps;
                case 1: return walkersInAll(true);
                case 2: return walkersInAll(false);
                case 3: return never;
                default: break;
            }
            int c = what % 10;
            if (!land.has(c)) {
                return NO_SUCH;
            }
            switch (what / 10) {
                case 1: return posts.post[c];
                case 2: return walkers[c];
                case 3: return posts.shut[c];
                default: return NO_SUCH;
            }
        }

        int toldAfter(int what) {
            switch (what) {
                case 0: return firstCame;
                case 1: return longestRun;
                case 2: return moved;
                case 3: return crowd;
                case 4: return unlikeTold();
                default: return NO_SUCH;
            }
        }

        private int unlikeTold() {
            int unlike = 0;
            for (int c = 0; c < land.crossings && c < MOST_CROSSINGS; c++) {
                unlike |= posts.post[c] != land.post[c] ? 1 << c : 0;
            }
            return unlike;
        }
    }

    // ---- all ways to set the posts ----

    /**
     * How every WALK ends, from every CROSSING, by every way to set the POSTS of CROSSINGS that are no INNS and have
     * ROADS. Ways are numbered as their rows of ROADS rise. A place in the table is a way and a CROSSING; what
     * stands there is the place to which the WALK leads, and the STEPS above it.
     */
    private static final class AllWays {
        private static final int PLACE_BITS = 17;
        private static final int PLACE = (1 << PLACE_BITS) - 1;
        private static final int STEP = 1 << PLACE_BITS;
        private static final int MOST_PLACES = 1 << PLACE_BITS;
        /** The highest bit of MOST_STEPS, which one STEP stands for. */
        private static final int TOP_BIT = 256;
        private static final int CROSSING_BITS = 3;
        private static final int CROSSING = (1 << CROSSING_BITS) - 1;

        boolean made;
        int ways;
        Land land = new Land();
        private int places;
        private final int[] choices = new int[MOST_CROSSINGS];
        private final int[] weight = new int[MOST_CROSSINGS];
        private final int[] row = new int[MOST_CROSSINGS];
        private int[] once = new int[0];
        private int[] ends = new int[0];
        private int[] spare = new int[0];

        void make(Land of) {
            if (made) {
                return;
            }
            countWays(of);
            grow();
            stepOnce();
            // Much cheaper than every WALK gone by itself: what n STEPS lead to gives what 2 n and 2 n + 1 lead to,
            // so the number of STEPS grows bit by bit.
            for (int bit = TOP_BIT >> 1; bit > 0; bit >>= 1) {
                doubleAll();
                if ((MOST_STEPS & bit) != 0) {
                    oneMore();
                }
            }
            made = true;
        }

        private void countWays(Land of) {
            land = of;
            ways = 1;
            for (int c = MOST_CROSSINGS - 1; c >= 0; c--) {
                choices[c] = Math.max(of.waysOut(c), 1);
                weight[c] = ways;
                ways *= choices[c];
            }
            places = Math.min(ways << CROSSING_BITS, MOST_PLACES);
        }

        private void grow() {
            if (ends.length >= places) {
                return;
            }
            int length = 64;
            while (length < places && length < MOST_PLACES) {
                length *= 2;
            }
            once = new int[length];
            ends = new int[length];
            spare = new int[length];
        }

        private void stepOnce() {
            for (int i = 0; i < places && i < once.length && i < ends.length; i++) {
                int way = i >> CROSSING_BITS;
                int c = i & CROSSING;
                int then = turned(way, c);
                if (then == NONE) {
                    once[i] = i;
                } else {
                    once[i] = place(then, land.target(c, road(then, c))) + STEP;
                }
                ends[i] = once[i];
            }
        }

        private static int place(int way, int c) {
            return (way << CROSSING_BITS) + c;
        }

        private void doubleAll() {
            int[] from = ends;
            int[] to = spare;
            for (int i = 0; i < places && i < from.length && i < to.length; i++) {
                int first = from[i];
                int at = first & PLACE;
                to[i] = at < from.length ? from[at] + (first - at) : first;
            }
            ends = to;
            spare = from;
        }

        private void oneMore() {
            for (int i = 0; i < places && i < ends.length; i++) {
                int first = ends[i];
                int at = first & PLACE;
                ends[i] = at < once.length ? once[at] + (first - at) : first;
            }
        }

        /** What stands in the table for a WALK: a CROSSING that is not there leads to itself. */
        private int entry(int way, int c) {
            int i = (way << CROSSING_BITS) + c;
            return i >= 0 && i < ends.length ? ends[i] : 0;
        }

        int where(int way, int c) {
            return entry(way, c) & CROSSING;
        }

        int steps(int way, int c) {
            return entry(way, c) >> PLACE_BITS;
        }

        int wayAfter(int way, int c) {
            return (entry(way, c) & PLACE) >> CROSSING_BITS;
        }

        int stepsOrNever(int way, int c) {
            return land.isInn(where(way, c)) ? steps(way, c) : NEVER_COMES;
        }

        /** The ROAD to which a POST points by a way. */
        int road(int way, int c) {
            if (c < 0 || c >= MOST_CROSSINGS || weight[c] < 1 || choices[c] < 1) {
                return 0;
            }
            return way / weight[c] % choices[c];
        }

        /** The way that comes of a way when a POST turns: NONE if it can't. */
        int turned(int way, int c) {
            int roads = land.waysOut(c);
            if (roads == 0) {
                return NONE;
            }
            return road(way, c) + 1 < roads ? way + weight[c] : way - (roads - 1) * weight[c];
        }

        int wayTold() {
            int way = 0;
            for (int c = 0; c < MOST_CROSSINGS; c++) {
                way += land.waysOut(c) > 0 ? land.post[c] * weight[c] : 0;
            }
            return way;
        }

        /** A way as a number: a 1, then the ROADS as digits. */
        int number(int way) {
            int number = 1;
            for (int c = 0; c < land.crossings; c++) {
                number = number * 10 + road(way, c);
            }
            return number;
        }

        /** The POSTS (bits) that two ways set unlike. */
        int unlike(int way, int other) {
            int unlike = 0;
            for (int c = 0; c < land.crossings; c++) {
                unlike |= road(way, c) != road(other, c) ? 1 << c : 0;
            }
            return unlike;
        }

        /** The way by which one comes to an INN that has the fewest POSTS set anew, the least of these; or NONE. */
        int nearestWay(int c, int inn) {
            int asTold = wayTold();
            int best = NONE;
            int bestRank = 0;
            for (int way = 0; way < ways; way++) {
                if (where(way, c) == inn) {
                    int changed = unlike(way, asTold);
                    int rank = (Integer.bitCount(changed) << MOST_CROSSINGS) + changed;
                    if (best == NONE || rank < bestRank) {
                        best = way;
                        bestRank = rank;
                    }
                }
            }
            return best;
        }

        /** TREES of a LAND; the table is not needed for it. */
        int treesOf(Land of) {
            countWays(of);
            int trees = 0;
            for (int c = 0; c < MOST_CROSSINGS; c++) {
                row[c] = 0;
            }
            for (int way = 0; way < ways; way++) {
                if (allComeByRow()) {
                    trees++;
                }
                nextRow();
            }
            return trees;
        }

        private void nextRow() {
            for (int c = MOST_CROSSINGS - 1; c >= 0; c--) {
                row[c]++;
                if (row[c] < choices[c]) {
                    return;
                }
                row[c] = 0;
            }
        }

        private boolean allComeByRow() {
            for (int c = 0; c < land.crossings; c++) {
                if (land.waysOut(c) > 0 && !comesByRow(c)) {
                    return false;
                }
            }
            return true;
        }

        private boolean comesByRow(int from) {
            int at = from;
            for (int i = 0; i < land.crossings && land.waysOut(at) > 0; i++) {
                at = land.target(at, row[at]);
            }
            return land.isInn(at);
        }
    }

    /** The ways that FIT a LOG in a LAND. */
    private static final class Fitting {
        private static final int WAY_BITS = 14;
        private static final int WAY = (1 << WAY_BITS) - 1;

        boolean made;
        int land = NONE;
        int log = NONE;
        int found;
        int least;
        int most;
        private int[] rows = new int[0];
        private final int[] places = new int[MOST_CROSSINGS];

        /** Holds each way that FITS, with the way that its POSTS stand behind the FACTS above it. */
        void find(AllWays all, Log by) {
            grow(all.ways);
            found = 0;
            least = 0;
            most = 0;
            for (int way = 0; way < all.ways && way <= WAY; way++) {
                tryWay(all, by, way);
            }
        }

        private void grow(int ways) {
            if (rows.length >= ways) {
                return;
            }
            int length = 16;
            while (length < ways && length <= WAY) {
                length *= 2;
            }
            rows = new int[length];
        }

        private void tryWay(AllWays all, Log by, int way) {
            int then = way;
            int steps = 0;
            for (int k = 0; k < by.facts && k < MOST_FACTS; k++) {
                int c = by.crossing[k];
                if (!all.land.has(c) || !isSo(all, then, c, by.inn[k])) {
                    return;
                }
                steps += all.steps(then, c);
                then = all.wayAfter(then, c);
            }
            if (found < rows.length) {
                least = found == 0 ? steps : Math.min(least, steps);
                most = Math.max(most, steps);
                rows[found] = (then << WAY_BITS) + way;
                found++;
            }
        }

        private static boolean isSo(AllWays all, int way, int c, int inn) {
            int where = all.where(way, c);
            return all.land.isInn(where) ? where == inn : inn == NONE;
        }

        int way(int k) {
            return k >= 0 && k < rows.length ? rows[k] & WAY : 0;
        }

        int pointing(AllWays all, int c, int r) {
            int pointing = 0;
            for (int k = 0; k < found; k++) {
                if (all.road(way(k), c) == r) {
                    pointing++;
                }
            }
            return pointing;
        }

        int sure(AllWays all, int c) {
            if (found == 0 || !all.land.has(c)) {
                return NONE;
            }
            int road = all.road(way(0), c);
            return pointing(all, c, road) == found ? road : NONE;
        }

        int ask(AllWays all) {
            int best = NONE;
            int bestMost = 0;
            for (int c = 0; c < all.land.crossings && found > 0; c++) {
                if (!all.land.isInn(c)) {
                    int together = mostTogether(all, c);
                    if (best == NONE || together < bestMost) {
                        best = c;
                        bestMost = together;
                    }
                }
            }
            return best;
        }

        /** The greatest number of ways that FIT by which one more, put there, is at the same place in the end. */
        private int mostTogether(AllWays all, int c) {
            for (int i = 0; i < MOST_CROSSINGS; i++) {
                places[i] = 0;
            }
            int together = 0;
            for (int k = 0; k < found && k < rows.length; k++) {
                int where = all.where(rows[k] >> WAY_BITS, c);
                if (where < MOST_CROSSINGS) {
                    places[where]++;
                    together = Math.max(together, places[where]);
                }
            }
            return together;
        }
    }

    // ---- the land's roads ----

    /** What is seen of a LAND's ROADS alone, INNS having none. */
    private static final class Roads {
        /** CROSSINGS (bits): these, and all to which a ROAD of these leads. */
        private static int spread(Land land, int bits) {
            int all = bits;
            for (int c = 0; c < land.crossings; c++) {
                if ((bits >> c & 1) != 0) {
                    for (int r = 0; r < land.waysOut(c); r++) {
                        all |= 1 << land.target(c, r);
                    }
                }
            }
            return all;
        }

        static int distance(Land land, int a, int b) {
            int seen = 1 << a;
            for (int steps = 0; steps <= MOST_CROSSINGS; steps++) {
                if ((seen >> b & 1) != 0) {
                    return steps;
                }
                seen = spread(land, seen);
            }
            return NONE;
        }

        static int reached(Land land, int c) {
            int seen = 1 << c;
            for (int i = 0; i < MOST_CROSSINGS; i++) {
                seen = spread(land, seen);
            }
            return seen;
        }

        static int nearest(Land land, int from) {
            int seen = 1 << from;
            for (int steps = 0; steps <= MOST_CROSSINGS; steps++) {
                for (int c = 0; c < land.crossings; c++) {
                    if (((seen & land.inns) >> c & 1) != 0) {
                        return c;
                    }
                }
                seen = spread(land, seen);
            }
            return NONE;
        }

        /** CLASSES: how many, or how many CROSSINGS the largest has. */
        static int parts(Land land, boolean largest) {
            int parts = 0;
            int most = 0;
            for (int c = 0; c < land.crossings; c++) {
                int same = inOneClass(land, c);
                if ((same & (1 << c) - 1) == 0) {
                    parts++;
                }
                most = Math.max(most, Integer.bitCount(same));
            }
            return largest ? most : parts;
        }

        private static int inOneClass(Land land, int c) {
            int reached = reached(land, c);
            int same = 0;
            for (int i = 0; i < land.crossings; i++) {
                if ((reached >> i & 1) != 0 && (reached(land, i) >> c & 1) != 0) {
                    same |= 1 << i;
                }
            }
            return same;
        }

        static int heads(Land land) {
            int led = 0;
            for (int c = 0; c < land.crossings; c++) {
                led |= spread(land, 1 << c) & ~(1 << c);
            }
            return ~led & (1 << land.crossings) - 1;
        }

        static int ends(Land land) {
            int ends = 0;
            for (int c = 0; c < land.crossings; c++) {
                ends |= land.waysOut(c) == 0 && !land.isInn(c) ? 1 << c : 0;
            }
            return ends;
        }

        static int loops(Land land) {
            int loops = 0;
            for (int c = 0; c < land.crossings; c++) {
                loops += howManyLead(land, c, c);
            }
            return loops;
        }

        static int doubles(Land land) {
            int doubles = 0;
            for (int c = 0; c < land.crossings; c++) {
                for (int to = 0; to < land.crossings; to++) {
                    int alike = howManyLead(land, c, to);
                    doubles += alike * (alike - 1) / 2;
                }
            }
            return doubles;
        }

        private static int howManyLead(Land land, int from, int to) {
            int lead = 0;
            for (int r = 0; r < land.waysOut(from); r++) {
                lead += land.target(from, r) == to ? 1 : 0;
            }
            return lead;
        }

        private static int howManyLeadTo(Land land, int to) {
            int lead = 0;
            for (int c = 0; c < land.crossings; c++) {
                lead += howManyLead(land, c, to);
            }
            return lead;
        }

        static int even(Land land) {
            int even = 0;
            for (int c = 0; c < land.crossings; c++) {
                even |= howManyLeadTo(land, c) == land.waysOut(c) ? 1 << c : 0;
            }
            return even;
        }

        static int busy(Land land) {
            int busy = NONE;
            int most = NONE;
            for (int c = 0; c < land.crossings; c++) {
                int lead = howManyLeadTo(land, c);
                if (lead > most) {
                    most = lead;
                    busy = c;
                }
            }
            return busy;
        }

        /** How many CROSSINGS are in the ring of POSTS that one of them is in. */
        static int ring(Land land, int from) {
            int at = from;
            for (int steps = 1; steps <= MOST_CROSSINGS; steps++) {
                at = land.has(at) ? land.target(at, land.post[at]) : NONE;
                if (at == from) {
                    return steps;
                }
            }
            return 0;
        }
    }
}
