/** Term 2, promises 8, 9, 21, 31: each sentence that names a boundary, on both sides of it. */
public final class EdgesOfDaysTest {
    private static final int NONE = TurnedPosts.NONE;
    /** From 0 it is 499 STEPS to the INN, from 6 it would be 500. */
    static final String FAR = "cross 0 0 0 1;cross 0 0 2;cross 1 0 1 3;cross 2 1 0 4;cross 3 3 2 5;cross;inn 5;cross 0;";
    private static final String LAND = "cross 0 1;cross 2;cross 0 0 0;inn 2;cross;";

    public static void main(String[] args) {
        noInnSteps();
        theNextRoad();
        cannotStep();
        walkOfFourHundredNinetyNine();
        staysTurned();
        beginsAsTold();
        go();
        run();
        turn();
        add();
        shut();
        open();
        noSuchCrossing();
        stop();
        states();
        stopRefused();
        stateRefused();
        drawnKinds();
        drawnUnsigned();
        drawnIfItMay();
        drawnTimes();
        drawnWithoutCrossings();
        drawnRefused();
        first();
        longestRun();
        moved();
        crowd();
        unlike();
        upToStop();
        ofAnotherDay();
        afterRefused();
        Check.done("EdgesOfDaysTest");
    }

    private static void stopsAt(int stop, String land, String day) {
        Check.due("stop of " + day, Check.withDay(land, day).stop(0, 0), stop);
    }

    // ---- term 2: STEPS ----

    private static void noInnSteps() {
        Check.sentence("A WALKER at a CROSSING that is no INN STEPS");
        String land = "cross 1;cross 0;walkers 0 1;";
        stopsAt(1, land, "go 0;");
        stopsAt(0, land + "inn 0;", "go 0;");
        TurnedPosts x = Check.withLand("cross 1;cross 0;inn 0;");
        Check.due("steps from the inn", x.walk(0, 0, 0), 0);
        Check.due("steps to the inn", x.walk(0, 1, 0), 1);
    }

    private static void theNextRoad() {
        Check.sentence("the POST there turns to the next ROAD of the row that is not shut, the first one behind the last one "
            + "(to the same one, if there is no other)");
        for (int roads = 1; roads <= 4; roads++) {
            TurnedPosts x = Check.withDay("cross" + " 0".repeat(roads) + ";", "turn 0;".repeat(9));
            for (int n = 0; n <= 9; n++) {
                Check.due("post of " + roads + " behind " + n, x.state(0, 0, n, 10), n % roads);
            }
        }
        for (int shut = 0; shut < 16; shut++) {
            StringBuilder day = new StringBuilder();
            for (int r = 0; r < 4; r++) {
                day.append((shut >> r & 1) != 0 ? "shut 0 " + r + ";" : "");
            }
            int shuts = Integer.bitCount(shut);
            for (int post = 0; post < 4; post++) {
                TurnedPosts x = Check.withDay("cross 1 2 3 4;cross;cross;cross;cross;walkers 0 1;post 0 " + post + ";", day + "go 0;");
                int next = NONE;
                for (int i = 4; i >= 1; i--) {
                    next = (shut >> (post + i) % 4 & 1) == 0 ? (post + i) % 4 : next;
                }
                Check.due("stop of " + shut, x.stop(0, 0), next == NONE ? shuts : shuts + 1);
                Check.due("post of " + shut, x.state(0, 0, shuts + 1, 10), next == NONE ? -2 : next);
                for (int r = 0; r < 4 && next != NONE; r++) {
                    Check.due("went by " + r + " of " + shut, x.state(0, 0, shuts + 1, 21 + r), r == next ? 1 : 0);
                }
            }
        }
    }

    private static void cannotStep() {
        Check.sentence("(Without a ROAD that is not shut he can't.)");
        stopsAt(0, "cross;walkers 0 1;", "go 0;");
        stopsAt(1, "cross 0;walkers 0 1;", "go 0;");
        stopsAt(1, "cross 0;walkers 0 1;", "shut 0 0;go 0;");
        stopsAt(3, "cross 0;walkers 0 1;", "shut 0 0;open 0 0;go 0;");
        stopsAt(4, "cross 0 0 0 0;walkers 0 1;", "shut 0 0;shut 0 1;shut 0 3;go 0;");
        stopsAt(4, "cross 0 0 0 0;walkers 0 1;", "shut 0 0;shut 0 1;shut 0 3;shut 0 2;go 0;");
        // another one's roads are not its own
        stopsAt(2, "cross 0;cross 0;walkers 0 1;", "shut 1 0;go 0;");
    }

    private static void walkOfFourHundredNinetyNine() {
        Check.sentence("STEPS on till he is at an INN, or can't, but at most 499 times: if he is at no INN then, he NEVER comes to one.");
        TurnedPosts x = Check.withLand(FAR);
        Check.dues("walk of 499", what -> x.walk(0, 0, what), 0, 499, 5, 1);
        Check.dues("walk of 500", what -> x.walk(0, 6, what), 0, 499, 4, 0);
        TurnedPosts y = Check.withDay(FAR + "walkers 0 1;", "run 0;");
        Check.dues("run of 499", what -> y.state(0, 0, 1, what), 0, 499, 1, 1, 0);
        TurnedPosts z = Check.withDay(FAR + "walkers 6 1;", "run 6;go 4;");
        Check.dues("run of 500", what -> z.state(0, 0, 1, what), 0, 499, 0, 1, 1);
        Check.dues("and one step more", what -> z.state(0, 0, 2, what), 0, 500, 1, 1, 1);
        Check.sentence("or can't");
        TurnedPosts end = Check.withLand("cross 1;cross;");
        Check.dues("to an end", what -> end.walk(0, 0, what), 0, 1, 1, 0);
        Check.dues("at an end", what -> end.walk(0, 1, what), 0, 0, 1, 0);
    }

    private static void staysTurned() {
        Check.sentence("What a WALK turns stays turned.");
        TurnedPosts x = Check.withDay("cross 0 1;cross;inn 1;walkers 0 3;post 0 1;", "run 0;run 0;turn 0;run 0;");
        Check.dues("steps", n -> x.state(0, 0, n, 0), 0, 0, 2, 4, 4, 5);
        Check.dues("post", n -> x.state(0, 0, n, 10), 0, 1, 1, 1, 0, 1);
    }

    private static void beginsAsTold() {
        Check.sentence("A DAY of a LAND begins with POSTS, WALKERS as told, nothing shut.");
        TurnedPosts x = Check.withDay("cross 0 0 0;cross 0 0 0 0;inn 1;post 0 2;post 1 3;walkers 0 9;walkers 1 4;",
            "shut 0 0;shut 1 3;go 0;add 1;");
        Check.due("stop", x.stop(0, 0), 4);
        for (int time = 0; time < 2; time++) {
            Check.dues("first four", what -> x.state(0, 0, 0, what), 0, 0, 4, 13, 0);
            Check.dues("posts", what -> x.state(0, 0, 0, what), 10, 2, 3, -2);
            Check.dues("walkers", what -> x.state(0, 0, 0, what), 20, 9, 4, -2);
            Check.dues("shut", what -> x.state(0, 0, 0, what), 30, 0, 0, -2);
            Check.dues("shut then", what -> x.state(0, 0, 4, what), 30, 1, 8, -2);
        }
    }

    // ---- term 2: DEEDS ----

    private static void go() {
        Check.sentence("go: one of the WALKERS at a CROSSING that is no INN STEPS.");
        TurnedPosts x = Check.withDay(LAND + "walkers 0 2;", "go 0;go 0;go 0;");
        Check.due("three may", x.stop(0, 0), 3);
        Check.dues("steps", n -> x.state(0, 0, n, 0), 0, 0, 1, 2, 3);
        Check.dues("walkers at 0", n -> x.state(0, 0, n, 20), 0, 2, 1, 1, 0);
        Check.dues("walkers at 1", n -> x.state(0, 0, n, 21), 0, 0, 1, 1, 2);
        stopsAt(0, LAND, "go 0;");
        stopsAt(1, LAND + "walkers 0 1;", "go 0;");
        stopsAt(1, LAND + "walkers 0 1;", "go 0;go 0;");
        stopsAt(0, LAND + "walkers 2 1;", "go 2;");
        stopsAt(0, LAND + "walkers 3 1;", "go 3;");
    }

    private static void run() {
        Check.sentence("run: one of the WALKERS there goes by a WALK (of no STEP, if he can't, or is at an INN).");
        stopsAt(0, LAND, "run 0;");
        stopsAt(1, LAND + "walkers 0 1;", "run 0;run 0;");
        stopsAt(2, LAND + "walkers 0 1;walkers 1 1;", "run 0;run 1;");
        TurnedPosts x = Check.withDay(LAND + "walkers 0 1;walkers 2 1;walkers 3 1;", "run 0;run 2;run 3;run 3;");
        Check.due("all may", x.stop(0, 0), 4);
        Check.dues("steps", n -> x.state(0, 0, n, 0), 0, 0, 2, 2, 2, 2);
        Check.dues("never", n -> x.state(0, 0, n, 3), 0, 0, 0, 0, 1, 2);
        Check.dues("at the inn", n -> x.state(0, 0, n, 22), 0, 1, 2, 2, 2, 2);
        Check.dues("at the end", n -> x.state(0, 0, n, 23), 0, 1, 1, 1, 1, 1);
        TurnedPosts shut = Check.withDay(LAND + "walkers 0 1;", "shut 0 0;shut 0 1;run 0;open 0 1;run 0;");
        Check.due("all may", shut.stop(0, 0), 5);
        Check.dues("steps", n -> shut.state(0, 0, n, 0), 2, 0, 0, 0, 2);
        Check.dues("never", n -> shut.state(0, 0, n, 3), 2, 0, 1, 1, 1);
    }

    private static void turn() {
        Check.sentence("turn: the POST of a CROSSING that is no INN turns as if one STEPPED there, nobody goes.");
        stopsAt(1, LAND, "turn 1;");
        stopsAt(0, LAND, "turn 2;");
        stopsAt(0, LAND, "turn 3;");
        stopsAt(1, LAND, "shut 1 0;turn 1;");
        TurnedPosts x = Check.withDay(LAND + "walkers 0 5;", "turn 0;shut 0 0;turn 0;turn 1;");
        Check.due("all may", x.stop(0, 0), 4);
        Check.dues("post", n -> x.state(0, 0, n, 10), 0, 0, 1, 1, 1, 1);
        Check.dues("walkers", n -> x.state(0, 0, n, 20), 0, 5, 5, 5, 5, 5);
        Check.due("steps", x.state(0, 0, 4, 0), 0);
    }

    private static void add() {
        // "99 at most": of 9 told and 40 added, or 60 drawn, there are never so many
        Check.sentence("add: one WALKER more is at a CROSSING");
        TurnedPosts x = Check.withDay(LAND + "walkers 0 9;", "add 0;".repeat(40));
        Check.due("all may", x.stop(0, 0), 40);
        for (int n = 0; n <= 40; n++) {
            Check.due("walkers behind " + n, x.state(0, 0, n, 20), 9 + n);
        }
        stopsAt(1, LAND, "add 2;");
        stopsAt(1, LAND, "add 3;");
        stopsAt(0, LAND, "add 4;");
    }

    private static void shut() {
        Check.sentence("shut: a ROAD that is not shut is");
        TurnedPosts x = Check.withDay("cross 0 0 0 0;", "shut 0 0;shut 0 3;shut 0 1;shut 0 2;");
        Check.dues("bits", n -> x.state(0, 0, n, 30), 0, 0, 1, 9, 11, 15);
        stopsAt(1, LAND, "shut 0 0;shut 0 0;");
        stopsAt(2, LAND, "shut 0 0;shut 0 1;");
        stopsAt(3, LAND, "shut 0 0;open 0 0;shut 0 0;");
        stopsAt(0, LAND, "shut 0 2;");
        stopsAt(0, LAND, "shut 3 0;");
        stopsAt(1, LAND, "shut 1 0;shut 1 1;");
        // an inn has ROADS as told
        stopsAt(2, LAND, "shut 2 0;shut 2 2;shut 2 3;");
    }

    private static void open() {
        Check.sentence("open: one that is, is not");
        stopsAt(0, LAND, "open 0 0;");
        stopsAt(2, LAND, "shut 0 0;open 0 0;");
        stopsAt(2, LAND, "shut 0 0;open 0 0;open 0 0;");
        stopsAt(1, LAND, "shut 0 0;open 0 1;");
        stopsAt(1, LAND, "shut 0 0;open 1 0;");
        stopsAt(0, LAND, "open 0 2;");
        stopsAt(0, LAND, "open 3 0;");
        TurnedPosts x = Check.withDay("cross 0 0 0 0;", "shut 0 0;shut 0 3;open 0 0;open 0 3;");
        Check.dues("bits", n -> x.state(0, 0, n, 30), 0, 0, 1, 9, 8, 0);
    }

    private static void noSuchCrossing() {
        Check.sentence("A DEED can't be, if there is no such CROSSING, ROAD, WALKER, or it is not as said.");
        String[] deeds = {"go %d;", "run %d;", "turn %d;", "add %d;", "shut %d 0;"};
        for (int n = 0; n <= 7; n++) {
            String land = "cross 0;".repeat(n) + (n > 0 ? "walkers " + (n - 1) + " 1;" : "");
            for (String deed : deeds) {
                if (n > 0) {
                    stopsAt(1, land, deed.formatted(n - 1));
                }
                if (n < 7) {
                    stopsAt(0, land, deed.formatted(n));
                    stopsAt(0, land, deed.formatted(6));
                }
            }
            if (n < 7) {
                stopsAt(0, land, "open " + n + " 0;");
            }
        }
    }

    private static void stop() {
        Check.sentence("STOP: the first DEED that can't be, else how many there are.");
        stopsAt(0, LAND, "");
        stopsAt(0, LAND, "open 0 0;add 0;");
        stopsAt(1, LAND, "add 0;");
        stopsAt(1, LAND, "add 0;open 0 0;add 0;open 0 0;");
        stopsAt(39, LAND, "add 0;".repeat(39) + "open 0 0;");
        stopsAt(40, LAND, "add 0;".repeat(40));
        stopsAt(0, "", "add 0;");
        stopsAt(0, "", "");
    }

    private static void states() {
        Check.sentence("A STATE is behind the first n DEEDS, n up to STOP.");
        TurnedPosts x = Check.withDay(LAND, "add 0;add 0;add 0;go 1;add 0;");
        Check.bounds("state, stopped", n -> x.state(0, 0, n, 2), 0, 3, -2);
        Check.dues("walkers", n -> x.state(0, 0, n, 2), -1, -2, 0, 1, 2, 3, -2, -2, -2);
        TurnedPosts y = Check.withDay(LAND, "add 0;".repeat(40));
        Check.bounds("state, to the end", n -> y.state(0, 0, n, 2), 0, 40, -2);
        TurnedPosts z = Check.withDay(LAND, "");
        Check.bounds("state of nothing", n -> z.state(0, 0, n, 2), 0, 0, -2);
    }

    // ---- promises 8 and 9 ----

    private static void stopRefused() {
        Check.sentence("STOP. NONE: there is none such (of either).");
        TurnedPosts x = new TurnedPosts();
        Check.due("no land, no day", x.stop(0, 0), NONE);
        Check.due("land", Check.land(x, LAND), 0);
        Check.due("no day", x.stop(0, 0), NONE);
        Check.due("day", Check.day(x, "add 0;"), 0);
        Check.bounds("land", i -> x.stop(i, 0), 0, 0, NONE);
        Check.bounds("day", i -> x.stop(0, i), 0, 0, NONE);
        Check.due("second", Check.land(x, "") + Check.day(x, ""), 2);
        Check.bounds("land", i -> x.stop(i, 1), 0, 1, NONE);
        Check.bounds("day", i -> x.stop(1, i), 0, 1, NONE);
        Check.due("each with each", x.stop(0, 0) + 10 * x.stop(0, 1) + 100 * x.stop(1, 0) + 1000 * x.stop(1, 1), 1);
        TurnedPosts noLand = new TurnedPosts();
        Check.due("day", Check.day(noLand, ""), 0);
        Check.due("no land", noLand.stop(0, 0), NONE);
    }

    private static void stateRefused() {
        Check.sentence("-2: there is no such STATE, or for another what.");
        TurnedPosts x = new TurnedPosts();
        Check.due("no land, no day", x.state(0, 0, 0, 0), -2);
        Check.due("land", Check.land(x, "cross 0;cross 0 0;walkers 1 3;inn 0;"), 0);
        Check.due("no day", x.state(0, 0, 0, 0), -2);
        Check.due("day", Check.day(x, "shut 0 0;go 1;"), 0);
        Check.bounds("land", i -> x.state(i, 0, 0, 0), 0, 0, -2);
        Check.bounds("day", i -> x.state(0, i, 0, 0), 0, 0, -2);
        Check.due("second", Check.land(x, "cross;".repeat(7)) + Check.day(x, ""), 2);
        Check.bounds("land", i -> x.state(i, 1, 0, 0), 0, 1, -2);
        Check.bounds("day", i -> x.state(1, i, 0, 0), 0, 1, -2);
        for (int what = -50; what < 150; what++) {
            int c = what % 10;
            int due = -2;
            if (what >= 0 && what < 4) {
                due = new int[] {1, 1, 3, 0}[what];
            } else if (what >= 10 && what < 40 && c < 2) {
                due = new int[][] {{0, 1}, {1, 2}, {1, 0}}[what / 10 - 1][c];
            }
            Check.due("state, what " + what, x.state(0, 0, 2, what), due);
            Check.due("of seven, what " + what, x.state(1, 1, 0, what),
                what >= 0 && what < 4 || what >= 10 && what < 40 && c < 7 ? 0 : -2);
        }
        Check.bounds("posts", what -> x.state(1, 1, 0, what), 10, 16, -2);
        Check.bounds("walkers", what -> x.state(1, 1, 0, what), 20, 26, -2);
        Check.bounds("shut", what -> x.state(1, 1, 0, what), 30, 36, -2);
        Check.bounds("first four", what -> x.state(1, 1, 0, what), 0, 3, -2);
    }

    // ---- term 4, promise 21: DRAWN ----

    /** What becomes of a seed, and the number below n that it is then. */
    private static int drawBelow(long[] x, int n) {
        x[0] = (x[0] * 1103515245L + 12345L) & 0xffffffffL;
        return (int) ((x[0] >> 16) % n);
    }

    /** The next seed from a number on that draws all these numbers, each below another. */
    private static int seedThatDraws(int from, int[] below, int... wanted) {
        for (int seed = from; seed < from + 20_000_000; seed++) {
            long[] x = {seed & 0xffffffffL};
            int so = 0;
            while (so < wanted.length && drawBelow(x, below[so]) == wanted[so]) {
                so++;
            }
            if (so == wanted.length) {
                return seed;
            }
        }
        Check.due("a seed is found", 0, 1);
        return 0;
    }

    private static void drawnDue(TurnedPosts x, int seed, int n, int steps, int walkers, int post, int at1, int shut) {
        String run = "drawn by " + seed + ", " + n + ", what ";
        Check.due(run + 0, x.drawn(0, seed, n, 0), steps);
        Check.due(run + 2, x.drawn(0, seed, n, 2), walkers);
        Check.due(run + 10, x.drawn(0, seed, n, 10), post);
        Check.due(run + 21, x.drawn(0, seed, n, 21), at1);
        Check.due(run + 30, x.drawn(0, seed, n, 30), shut);
    }

    private static void drawnKinds() {
        Check.sentence("a number below 10: 0 to 3: go, 4: run, 5: turn, 6, 7: add, a CROSSING, below all; 8: shut, 9: open, "
            + "a CROSSING, a number below 4");
        TurnedPosts x = Check.withLand("cross 0 1 1 0;cross 2 2;cross;inn 2;walkers 0 1;");
        int[] below = {10, 3, 4};
        int[] next = {10, 3, 4, 10, 3, 4};
        for (int kind = 0; kind < 4; kind++) {
            drawnDue(x, seedThatDraws(0, below, kind, 0), 1, 1, 1, 1, 1, 0);
        }
        drawnDue(x, seedThatDraws(0, below, 4, 0), 1, 2, 1, 1, 0, 0);
        drawnDue(x, seedThatDraws(0, below, 5, 0), 1, 0, 1, 1, 0, 0);
        for (int kind = 6; kind < 8; kind++) {
            drawnDue(x, seedThatDraws(0, below, kind, 1), 1, 0, 2, 0, 1, 0);
        }
        for (int r = 0; r < 4; r++) {
            drawnDue(x, seedThatDraws(0, below, 8, 0, r), 1, 0, 1, 0, 0, 1 << r);
            int seed = seedThatDraws(0, next, 8, 0, r, 9, 0, r);
            drawnDue(x, seed, 1, 0, 1, 0, 0, 1 << r);
            drawnDue(x, seed, 2, 0, 1, 0, 0, 0);
        }
        // two numbers a deed, but three for shut and open, be they as they may
        drawnDue(x, seedThatDraws(0, new int[] {10, 3, 10, 3}, 5, 0, 6, 1), 2, 0, 2, 1, 1, 0);
        drawnDue(x, seedThatDraws(0, new int[] {10, 3, 4, 10, 3}, 8, 0, 3, 6, 1), 2, 0, 2, 0, 1, 8);
        drawnDue(x, seedThatDraws(0, new int[] {10, 3, 4, 10, 3}, 9, 0, 3, 6, 1), 2, 0, 2, 0, 1, 0);
        drawnDue(x, seedThatDraws(0, new int[] {10, 3, 10, 3}, 0, 1, 6, 1), 2, 0, 2, 0, 1, 0);
        Check.sentence("a CROSSING, below all");
        for (int n = 1; n <= 7; n++) {
            TurnedPosts y = Check.withLand("cross;".repeat(n));
            for (int c = 0; c < n; c++) {
                Check.due("added", y.drawn(0, seedThatDraws(0, new int[] {10, n}, 6, c), 1, 20 + c), 1);
            }
        }
    }

    private static void drawnUnsigned() {
        Check.sentence("x becomes x * 1103515245 + 12345 (of 32 bits), it is x shifted right by 16 without sign, remainder by n");
        for (int from : new int[] {0, 1 << 30, Integer.MIN_VALUE, -50, 0x7fffff00}) {
            TurnedPosts x = Check.withLand("cross;cross;cross;");
            int low = 0;
            int high = 0;
            for (int seed = from; seed - from < 200; seed++) {
                long[] drawn = {seed & 0xffffffffL};
                int kind = drawBelow(drawn, 10);
                int c = drawBelow(drawn, 3);
                low += drawn[0] >> 31 == 0 ? 1 : 0;
                high += drawn[0] >> 31 == 1 ? 1 : 0;
                Check.due("added by " + seed, x.drawn(0, seed, 1, 20 + c), kind == 6 || kind == 7 ? 1 : 0);
                Check.due("in all by " + seed, x.drawn(0, seed, 1, 2), kind == 6 || kind == 7 ? 1 : 0);
            }
            Check.due("some with a sign, some without", low > 0 && high > 0, true);
        }
    }

    private static void drawnIfItMay() {
        Check.sentence("each, if it may");
        TurnedPosts x = Check.withLand("cross 1 1 1 0;cross;cross;inn 1;walkers 0 1;");
        int[] below = {10, 3, 10, 3};
        // one goes from 0, none can from 2, and then one more is at 2
        drawnDue(x, seedThatDraws(0, below, 0, 0), 1, 1, 1, 1, 1, 0);
        drawnDue(x, seedThatDraws(0, below, 0, 2, 7, 2), 1, 0, 1, 0, 0, 0);
        drawnDue(x, seedThatDraws(0, below, 0, 2, 7, 2), 2, 0, 2, 0, 0, 0);
        drawnDue(x, seedThatDraws(0, below, 0, 0, 1, 0), 2, 1, 1, 1, 1, 0);
        drawnDue(x, seedThatDraws(0, below, 5, 1, 5, 0), 2, 0, 1, 1, 0, 0);
        int never = seedThatDraws(0, below, 6, 2, 4, 2);
        Check.due("run of one added", x.drawn(0, never, 2, 3), 1);
        Check.due("run of none", x.drawn(0, seedThatDraws(0, below, 4, 2), 1, 3), 0);
        drawnDue(x, seedThatDraws(0, new int[] {10, 3, 4}, 8, 1, 0), 1, 0, 1, 0, 0, 0);
        drawnDue(x, seedThatDraws(0, new int[] {10, 3, 4, 10, 3, 4}, 8, 0, 2, 8, 0, 2), 2, 0, 1, 0, 0, 4);
        drawnDue(x, seedThatDraws(0, new int[] {10, 3, 4, 10, 3, 4}, 8, 0, 2, 9, 0, 1), 2, 0, 1, 0, 0, 4);
    }

    private static void drawnTimes() {
        Check.sentence("n times, 0 to 60");
        TurnedPosts x = Check.withLand("cross;");
        int adds60 = 0;
        for (int seed = 0; seed < 40; seed++) {
            long[] drawn = {seed};
            int walkers = 0;
            Check.due("none by " + seed, x.drawn(0, seed, 0, 2), 0);
            for (int n = 1; n <= 60; n++) {
                int kind = drawBelow(drawn, 10);
                drawBelow(drawn, 1);
                if (kind >= 8) {
                    drawBelow(drawn, 4);
                }
                boolean adds = kind == 6 || kind == 7;
                walkers += adds ? 1 : 0;
                adds60 += adds && n == 60 ? 1 : 0;
                if (n == 1 || n > 57) {
                    Check.due(n + " by " + seed, x.drawn(0, seed, n, 2), walkers);
                }
            }
            if (seed % 20 == 0) {
                int by = seed;
                Check.bounds("drawn by " + seed, n -> x.drawn(0, by, n, 2), 0, 60, -2);
            }
        }
        Check.due("some add at the 60th", adds60 > 0, true);
    }

    private static void drawnWithoutCrossings() {
        Check.sentence("(Without CROSSINGS nothing is drawn but the first number.)");
        TurnedPosts x = Check.withLand("");
        for (int seed = 0; seed < 20; seed++) {
            int by = seed;
            Check.dues("by " + seed, what -> x.drawn(0, by, 60, what), -1, -2, 0, 0, 0, 0, -2);
            for (int what : new int[] {10, 20, 30}) {
                Check.due("by " + seed, x.drawn(0, seed, 60, what), -2);
            }
        }
    }

    private static void drawnRefused() {
        Check.sentence("DRAWN, n times, what as state(). -2: there is none such, another n, or for another what.");
        TurnedPosts x = new TurnedPosts();
        Check.due("no land", x.drawn(0, 1, 1, 0), -2);
        Check.due("land", Check.land(x, "cross;cross;"), 0);
        Check.bounds("land", i -> x.drawn(i, 1, 1, 0), 0, 0, -2);
        Check.due("land", Check.land(x, "cross;".repeat(7)), 1);
        Check.bounds("land", i -> x.drawn(i, 1, 1, 0), 0, 1, -2);
        Check.bounds("n", n -> x.drawn(0, 1, n, 0), 0, 60, -2);
        for (int what = -50; what < 150; what++) {
            boolean answers = what >= 0 && what < 4 || what >= 10 && what < 40 && what % 10 < 2;
            Check.due("drawn, what " + what, x.drawn(0, 1, 0, what), answers ? 0 : -2);
        }
        Check.bounds("first four", what -> x.drawn(1, 1, 0, what), 0, 3, -2);
        Check.bounds("posts", what -> x.drawn(1, 1, 0, what), 10, 16, -2);
        Check.bounds("walkers", what -> x.drawn(1, 1, 0, what), 20, 26, -2);
        Check.bounds("shut", what -> x.drawn(1, 1, 0, what), 30, 36, -2);
    }

    // ---- term 5, promise 31 ----

    private static void afterDue(int what, String land, String day, int due) {
        Check.due("after, what " + what + " of " + land + " " + day, Check.withDay(land, day).after(0, 0, what), due);
    }

    private static void first() {
        Check.sentence("FIRST: the DEED go or run (from 0 on) by which one who was at no INN came to one first (none)");
        String land = "cross 1;cross 2;cross 3;inn 2;cross;inn 3;walkers 0 2;walkers 2 1;";
        afterDue(0, land, "", NONE);
        afterDue(0, land, "go 0;", NONE);
        afterDue(0, land, "go 0;go 1;", 1);
        afterDue(0, land, "run 0;go 0;go 1;", 0);
        afterDue(0, land, "run 2;", NONE);
        afterDue(0, land, "add 2;add 0;turn 0;run 2;go 0;run 1;run 0;", 5);
        afterDue(0, land, "add 1;".repeat(39) + "go 1;", 39);
        afterDue(0, "cross 1;cross 0;walkers 0 1;", "run 0;", NONE);
        afterDue(0, "", "", NONE);
    }

    private static void longestRun() {
        Check.sentence("LONG: the most STEPS any run took");
        String land = "cross 1;cross 2;cross;inn 2;walkers 0 2;walkers 1 1;walkers 2 1;";
        afterDue(1, land, "", 0);
        afterDue(1, land, "go 0;go 1;", 0);
        afterDue(1, land, "run 2;", 0);
        afterDue(1, land, "run 1;", 1);
        afterDue(1, land, "run 1;run 0;", 2);
        afterDue(1, land, "run 0;run 1;", 2);
        afterDue(1, land, "run 0;run 0;", 2);
        afterDue(1, FAR + "walkers 0 1;", "run 0;", 499);
        afterDue(1, FAR + "walkers 6 1;", "run 6;", 499);
    }

    private static void moved() {
        Check.sentence("MOVED: how many DEEDS go, run there were behind which he was at another CROSSING than ahead");
        String land = "cross 0 1;cross 0;cross;inn 2;cross 3 3;walkers 0 3;walkers 2 1;walkers 3 1;";
        afterDue(2, land, "", 0);
        afterDue(2, land, "turn 0;add 0;shut 0 0;open 0 0;", 0);
        afterDue(2, land, "go 0;", 1);
        afterDue(2, land, "go 0;go 0;", 1);
        afterDue(2, land, "go 0;go 0;go 0;", 2);
        afterDue(2, land, "run 2;run 3;go 3;", 0);
        afterDue(2, "cross 1;cross 2;cross;inn 2;walkers 0 1;", "run 0;", 1);
        // 499 steps lead one back to where he was, or to the other one
        afterDue(2, "cross 1;cross 0;walkers 0 1;", "run 0;", 1);
        afterDue(2, "cross 1 0;cross 0;walkers 0 1;", "run 0;", 0);
        afterDue(2, "cross 0;walkers 0 1;", "run 0;", 0);
    }

    private static void crowd() {
        Check.sentence("CROWD: the most WALKERS at any CROSSING that is no INN, behind any DEED or at first");
        String land = "cross 1;cross 2;cross;inn 2;walkers 0 3;walkers 2 9;";
        afterDue(3, land, "", 3);
        afterDue(3, land, "run 0;", 3);
        afterDue(3, land, "add 2;run 0;", 3);
        afterDue(3, land, "add 0;", 4);
        afterDue(3, land, "add 0;run 0;run 0;run 0;run 0;", 4);
        afterDue(3, land, "go 0;go 0;go 0;add 1;run 1;", 4);
        afterDue(3, land, "go 0;go 0;go 0;", 3);
        afterDue(3, "cross;inn 0;walkers 0 9;", "add 0;", 0);
        afterDue(3, "cross;walkers 0 9;", "add 0;".repeat(40), 49);
        afterDue(3, "", "", 0);
    }

    private static void unlike() {
        Check.sentence("UNLIKE: POSTS (bits) that point elsewhere than as told");
        String land = "cross 0 0 0;cross 1 1;cross 2;post 0 2;";
        afterDue(4, land, "", 0);
        afterDue(4, land, "turn 0;", 1);
        afterDue(4, land, "turn 0;turn 0;", 1);
        afterDue(4, land, "turn 0;turn 0;turn 0;", 0);
        afterDue(4, land, "turn 1;", 2);
        afterDue(4, land, "turn 2;turn 0;turn 1;", 3);
        afterDue(4, "cross;".repeat(6) + "cross 6 6;", "turn 6;", 64);
    }

    private static void upToStop() {
        Check.sentence("Of a DAY of a LAND, behind all DEEDS up to STOP");
        TurnedPosts x = Check.withDay("cross 1 1;cross;inn 1;walkers 0 1;", "add 0;open 0 0;add 0;run 0;");
        Check.due("stop", x.stop(0, 0), 1);
        Check.dues("after", what -> x.after(0, 0, what), 0, NONE, 0, 0, 2, 0);
        TurnedPosts y = Check.withDay("cross 1 1;cross;inn 1;walkers 0 1;", "add 0;shut 0 0;add 0;run 0;");
        Check.dues("after", what -> y.after(0, 0, what), 0, 3, 1, 1, 3, 1);
    }

    /** What was seen of one DAY is not in the answers of another. */
    private static void ofAnotherDay() {
        Check.sentence("Of a DAY of a LAND");
        TurnedPosts x = Check.withDay("cross 1;cross 0 2;cross;inn 2;cross;walkers 0 9;walkers 3 2;", "shut 1 0;add 0;run 0;run 3;turn 1;");
        Check.due("second", Check.land(x, "cross 1 1;cross;walkers 0 1;") + Check.day(x, "turn 0;"), 2);
        for (int time = 0; time < 2; time++) {
            Check.dues("first", what -> x.after(0, 0, what), 0, 2, 2, 1, 10, 2);
            Check.dues("second", what -> x.after(1, 1, what), 0, NONE, 0, 0, 1, 1);
            Check.dues("first", what -> x.state(0, 0, 5, what), 0, 2, 1, 12, 1);
            Check.dues("second", what -> x.state(1, 1, 1, what), 0, 0, 0, 1, 0);
            Check.due("first", x.state(0, 0, 5, 31), 1);
            Check.due("second", x.state(1, 1, 1, 31), 0);
        }
    }

    private static void afterRefused() {
        Check.sentence("What 0: FIRST (NONE), 1: LONG (0: none), 2: MOVED, 3: CROWD, 4: UNLIKE (bits). -2: there is none such "
            + "(of either), or for another what.");
        TurnedPosts x = new TurnedPosts();
        Check.due("no land, no day", x.after(0, 0, 0), -2);
        Check.due("land", Check.land(x, ""), 0);
        Check.due("no day", x.after(0, 0, 0), -2);
        Check.due("day", Check.day(x, ""), 0);
        Check.bounds("land", i -> x.after(i, 0, 0), 0, 0, -2);
        Check.bounds("day", i -> x.after(0, i, 0), 0, 0, -2);
        Check.due("second", Check.land(x, "") + Check.day(x, ""), 2);
        Check.bounds("land", i -> x.after(i, 0, 1), 0, 1, -2);
        Check.bounds("day", i -> x.after(0, i, 1), 0, 1, -2);
        Check.bounds("what", what -> x.after(0, 0, what), 0, 4, -2);
    }
}
