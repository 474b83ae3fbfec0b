/** Promises 8, 9, 21, 31: days, deed by deed, and days by a seed. */
public final class DaysTest {
    private static final int NONE = TurnedPosts.NONE;
    private static final String LAND = "cross 1 2;cross 0 2;cross 0;inn 2;cross;walkers 0 2;walkers 3 1;post 1 1;";

    public static void main(String[] args) {
        goAndRun();
        shutAndOpen();
        cannotBe();
        neverByRun();
        wrongInputs();
        after();
        afterNothing();
        drawn();
        drawnEdges();
        Check.done("DaysTest");
    }

    private static void state(TurnedPosts x, int n, int[] numbers, int[] posts, int[] walkers, int[] shut) {
        for (int what = 0; what < 4; what++) {
            Check.due("state " + n + " " + what, x.state(0, 0, n, what), numbers[what]);
        }
        for (int c = 0; c < posts.length; c++) {
            Check.due("post " + n + " " + c, x.state(0, 0, n, 10 + c), posts[c]);
            Check.due("walkers " + n + " " + c, x.state(0, 0, n, 20 + c), walkers[c]);
            Check.due("shut " + n + " " + c, x.state(0, 0, n, 30 + c), shut[c]);
        }
    }

    private static void goAndRun() {
        // posts 0 1: the first goes by road 1 to the inn; run of the second by road 0 to 1, by 0 to 0, by 1 to the inn
        TurnedPosts x = Check.withDay(LAND, "go 0;run 0;turn 0;add 1;go 1;run 2;go 2;go 0;");
        Check.due("stop", x.stop(0, 0), 6);
        int[] no = {0, 0, 0, 0};
        state(x, 0, new int[] {0, 0, 3, 0}, new int[] {0, 1, 0, 0}, new int[] {2, 0, 0, 1}, no);
        state(x, 1, new int[] {1, 1, 3, 0}, new int[] {1, 1, 0, 0}, new int[] {1, 0, 1, 1}, no);
        state(x, 2, new int[] {4, 2, 3, 0}, new int[] {1, 0, 0, 0}, new int[] {0, 0, 2, 1}, no);
        state(x, 3, new int[] {4, 2, 3, 0}, new int[] {0, 0, 0, 0}, new int[] {0, 0, 2, 1}, no);
        state(x, 4, new int[] {4, 2, 4, 0}, new int[] {0, 0, 0, 0}, new int[] {0, 1, 2, 1}, no);
        state(x, 5, new int[] {5, 3, 4, 0}, new int[] {0, 1, 0, 0}, new int[] {0, 0, 3, 1}, no);
        state(x, 6, new int[] {5, 3, 4, 0}, new int[] {0, 1, 0, 0}, new int[] {0, 0, 3, 1}, no);
        Check.due("state 7", x.state(0, 0, 7, 0), -2);
        Check.due("state 8", x.state(0, 0, 8, 0), -2);
        Check.due("state -1", x.state(0, 0, -1, 0), -2);
    }

    private static void shutAndOpen() {
        // a road that is shut is passed over; the one that is left is turned to again; none: can't
        TurnedPosts x = Check.withDay("cross 0 1 2;cross;cross;inn 1;walkers 0 9;",
            "shut 0 1;go 0;shut 0 2;go 0;turn 0;shut 0 0;open 0 1;go 0;shut 0 1;run 0;add 0;go 0;");
        Check.due("stop", x.stop(0, 0), 11);
        Check.due("passes 1", x.state(0, 0, 2, 10), 2);
        Check.due("is at 2", x.state(0, 0, 2, 22), 1);
        Check.due("shut", x.state(0, 0, 3, 30), 6);
        Check.due("wraps", x.state(0, 0, 4, 10), 0);
        Check.due("stays", x.state(0, 0, 4, 20), 8);
        Check.due("steps", x.state(0, 0, 4, 0), 2);
        Check.due("turned to the same", x.state(0, 0, 5, 10), 0);
        Check.due("all shut", x.state(0, 0, 6, 30), 7);
        Check.due("opened", x.state(0, 0, 7, 30), 5);
        Check.due("goes by 1", x.state(0, 0, 8, 21), 1);
        Check.due("all shut", x.state(0, 0, 9, 30), 7);
        Check.due("run of none", x.state(0, 0, 10, 0), 3);
        Check.due("never", x.state(0, 0, 10, 3), 1);
        Check.due("added", x.state(0, 0, 11, 20), 8);
        // roads of an inn can be shut, its post never turns
        x = Check.withDay("cross 0;inn 0;", "shut 0 0;open 0 0;turn 0;");
        Check.due("inn's road", x.state(0, 0, 1, 30), 1);
        Check.due("stop at inn's post", x.stop(0, 0), 2);
    }

    private static void stopsAt(int stop, String land, String day) {
        Check.due("stop of " + day, Check.withDay(land, day).stop(0, 0), stop);
    }

    private static void cannotBe() {
        stopsAt(0, LAND, "");
        stopsAt(0, LAND, "go 4;");
        stopsAt(0, LAND, "run 4;");
        stopsAt(0, LAND, "turn 4;");
        stopsAt(0, LAND, "add 4;");
        stopsAt(0, LAND, "shut 4 0;");
        stopsAt(0, LAND, "open 4 0;");
        stopsAt(0, LAND, "go 1;");
        stopsAt(0, LAND, "run 1;");
        stopsAt(0, LAND, "go 3;");
        stopsAt(1, LAND, "run 3;");
        stopsAt(0, LAND, "turn 3;");
        stopsAt(0, LAND, "turn 2;");
        stopsAt(0, LAND, "shut 0 2;");
        stopsAt(0, LAND, "open 0 0;");
        stopsAt(1, LAND, "shut 0 0;shut 0 0;");
        stopsAt(2, LAND, "shut 0 0;open 0 0;open 0 0;");
        stopsAt(2, LAND, "shut 0 0;shut 0 1;turn 0;");
        stopsAt(2, LAND, "shut 0 0;shut 0 1;go 0;");
        stopsAt(3, LAND, "shut 0 0;shut 0 1;run 0;");
        stopsAt(1, LAND, "add 2;go 2;");
        stopsAt(2, LAND, "add 2;run 2;");
        stopsAt(40, LAND, "add 6;add 0;".substring(6).repeat(40));
        stopsAt(0, "", "add 0;");
    }

    private static void neverByRun() {
        // one who runs 499 steps, one who can't step, one who stands at an inn
        TurnedPosts x = Check.withDay("cross 0;cross;cross;inn 2;walkers 0 1;walkers 1 1;walkers 2 1;",
            "run 0;run 1;run 2;run 0;go 0;");
        Check.due("499", x.state(0, 0, 1, 0), 499);
        Check.due("never", x.state(0, 0, 1, 3), 1);
        Check.due("can't", x.state(0, 0, 2, 3), 2);
        Check.due("can't", x.state(0, 0, 2, 0), 499);
        Check.due("inn", x.state(0, 0, 3, 3), 2);
        Check.due("again", x.state(0, 0, 4, 3), 3);
        Check.due("go is no run", x.state(0, 0, 5, 3), 3);
        Check.due("steps", x.state(0, 0, 5, 0), 999);
    }

    private static void wrongInputs() {
        TurnedPosts x = Check.withDay(LAND, "go 0;");
        for (int i : new int[] {-1, 1, 2, Integer.MAX_VALUE, Integer.MIN_VALUE}) {
            Check.due("stop land " + i, x.stop(i, 0), NONE);
            Check.due("stop day " + i, x.stop(0, i), NONE);
            Check.due("state land " + i, x.state(i, 0, 0, 0), -2);
            Check.due("state day " + i, x.state(0, i, 0, 0), -2);
            Check.due("after land " + i, x.after(i, 0, 0), -2);
            Check.due("after day " + i, x.after(0, i, 0), -2);
            Check.due("drawn land " + i, x.drawn(i, 0, 0, 0), -2);
        }
        for (int what : new int[] {-1, 4, 9, 14, 17, 19, 24, 29, 34, 40, 100, Integer.MAX_VALUE, Integer.MIN_VALUE}) {
            Check.due("state what " + what, x.state(0, 0, 0, what), -2);
            Check.due("drawn what " + what, x.drawn(0, 0, 0, what), -2);
        }
        Check.due("after what", x.after(0, 0, 5), -2);
        Check.due("after what", x.after(0, 0, -1), -2);
    }

    private static void after() {
        TurnedPosts x = Check.withDay(LAND, "add 2;run 2;turn 0;run 0;go 0;add 3;add 3;shut 1 0;go 1;");
        // turn: post 0 is 1; run 0: by 0 to 1, by 0 to 0, by 1 to the inn; go 0: by 0 to 1; go 1: by 1 to the inn
        Check.due("stop", x.stop(0, 0), 9);
        Check.due("first", x.after(0, 0, 0), 3);
        Check.due("long", x.after(0, 0, 1), 3);
        Check.due("moved", x.after(0, 0, 2), 3);
        Check.due("crowd", x.after(0, 0, 3), 3);
        Check.due("unlike", x.after(0, 0, 4), 0);
        x = Check.withDay(LAND, "go 0;turn 1;go 2;turn 1;");
        Check.due("unlike at stop", x.after(0, 0, 4), 3);
        // a go to where he is moves him not; a crowd at an inn is none; the crowd at first counts
        x = Check.withDay("cross 0 1;cross;inn 1;walkers 0 2;", "turn 0;go 0;add 1;add 1;add 1;go 0;go 0;go 0;");
        Check.due("stop", x.stop(0, 0), 8);
        Check.due("first", x.after(0, 0, 0), 5);
        Check.due("long", x.after(0, 0, 1), 0);
        Check.due("moved", x.after(0, 0, 2), 2);
        Check.due("crowd", x.after(0, 0, 3), 2);
    }

    private static void afterNothing() {
        TurnedPosts x = Check.withDay("", "add 0;");
        Check.due("first", x.after(0, 0, 0), NONE);
        for (int what = 1; what < 5; what++) {
            Check.due("after " + what, x.after(0, 0, what), 0);
        }
        // one at an inn who runs comes to none; a run that never comes is long
        x = Check.withDay("cross;cross 1;inn 0;walkers 0 5;", "run 0;add 1;run 1;");
        Check.due("first", x.after(0, 0, 0), NONE);
        Check.due("long", x.after(0, 0, 1), 499);
        Check.due("moved", x.after(0, 0, 2), 0);
        Check.due("crowd", x.after(0, 0, 3), 1);
    }

    /** The numbers a seed gives, drawn by long arithmetic. */
    private static int[] draws(int seed, int[] below) {
        long x = seed & 0xffffffffL;
        int[] drawn = new int[below.length];
        for (int i = 0; i < below.length; i++) {
            x = (x * 1103515245L + 12345L) % (1L << 32);
            drawn[i] = (int) ((x >> 16) % below[i]);
        }
        return drawn;
    }

    /** A seed by which three numbers come that are wanted. */
    private static int seedFor(int kind, int crossing, int crossings, int road) {
        for (int seed = -5000; seed < 100000; seed++) {
            int[] d = draws(seed, new int[] {10, crossings, 4});
            if (d[0] == kind && d[1] == crossing && (kind < 8 || d[2] == road)) {
                return seed;
            }
        }
        return 0;
    }

    private static void drawn() {
        TurnedPosts x = Check.withLand(LAND);
        for (int kind = 0; kind <= 3; kind++) {
            int seed = seedFor(kind, 0, 4, 0);
            Check.due("go " + kind, x.drawn(0, seed, 1, 22), 1);
            Check.due("go " + kind, x.drawn(0, seed, 1, 0), 1);
            Check.due("go " + kind, x.drawn(0, seed, 1, 10), 1);
        }
        int run = seedFor(4, 3, 4, 0);
        Check.due("run", x.drawn(0, run, 1, 3), 1);
        int turn = seedFor(5, 1, 4, 0);
        Check.due("turn", x.drawn(0, turn, 1, 11), 0);
        Check.due("turn", x.drawn(0, turn, 1, 0), 0);
        Check.due("add", x.drawn(0, seedFor(6, 1, 4, 0), 1, 21), 1);
        Check.due("add", x.drawn(0, seedFor(7, 2, 4, 0), 1, 22), 1);
        Check.due("shut", x.drawn(0, seedFor(8, 1, 4, 1), 1, 31), 2);
        Check.due("shut none", x.drawn(0, seedFor(8, 1, 4, 3), 1, 31), 0);
        Check.due("open none", x.drawn(0, seedFor(9, 1, 4, 1), 1, 31), 0);
        Check.due("go none", x.drawn(0, seedFor(0, 1, 4, 0), 1, 0), 0);
    }

    private static void drawnEdges() {
        TurnedPosts x = Check.withLand(LAND);
        Check.due("none drawn", x.drawn(0, 5, 0, 20), 2);
        Check.due("n -1", x.drawn(0, 5, -1, 20), -2);
        Check.due("n 61", x.drawn(0, 5, 61, 20), -2);
        int walkers = 0;
        for (int c = 0; c < 4; c++) {
            walkers += x.drawn(0, 5, 60, 20 + c);
        }
        Check.due("n 60", x.drawn(0, 5, 60, 2), walkers);
        x = Check.withLand("");
        for (int what = 0; what < 4; what++) {
            Check.due("without crossings", x.drawn(0, 77, 60, what), 0);
        }
        Check.due("without crossings", x.drawn(0, 77, 60, 10), -2);
    }
}
