/** Promises 22 to 25: the roads of a land alone, inns having none. */
public final class RoadsTest {
    private static final int NONE = TurnedPosts.NONE;
    // 0 leads to 1 and to itself, 1 to 2 and 0, 2 is an inn (its roads are none), 3 to 2 twice, 4 is an end
    private static final String LAND = "cross 0 1 1;cross 2 0;cross 0 3 2;inn 2;cross 2 2 2 4;cross;";

    public static void main(String[] args) {
        far();
        reach();
        classes();
        classesOfNone();
        led();
        wrongInputs();
        Check.done("RoadsTest");
    }

    private static void far() {
        TurnedPosts x = Check.withLand(LAND);
        int[][] due = {
            {0, 1, 2, NONE, NONE},
            {1, 0, 1, NONE, NONE},
            {NONE, NONE, 0, NONE, NONE},
            {NONE, NONE, 1, 0, 1},
            {NONE, NONE, NONE, NONE, 0},
        };
        for (int a = 0; a < 5; a++) {
            for (int b = 0; b < 5; b++) {
                Check.due("far " + a + " " + b, x.far(0, a, b), due[a][b]);
            }
        }
        x = Check.withLand("cross 1;cross 2;cross 3;cross 4;cross 5;cross 6;cross 0;");
        Check.due("far 0 6", x.far(0, 0, 6), 6);
        Check.due("far 1 0", x.far(0, 1, 0), 6);
    }

    private static void reach() {
        TurnedPosts x = Check.withLand(LAND);
        int[] reach = {7, 7, 4, 28, 16};
        int[] nearest = {2, 2, 2, 2, NONE};
        for (int c = 0; c < 5; c++) {
            Check.due("reach " + c, x.reach(0, c, 0), reach[c]);
            Check.due("nearest " + c, x.reach(0, c, 1), nearest[c]);
        }
        x = Check.withLand("cross 3 1;cross 2;cross;cross 4;cross;inn 2;inn 4;");
        Check.due("of several the least", x.reach(0, 0, 1), 2);
        Check.due("the nearer one", x.reach(0, 3, 1), 4);
        x = Check.withLand("cross 1 4;cross 2;cross;inn 2;cross;cross;inn 4;");
        Check.due("the nearer one", x.reach(0, 0, 1), 4);
    }

    private static void classes() {
        TurnedPosts x = Check.withLand(LAND);
        // roads: 00 01 01 12 10 32 32 32 34
        int[] due = {4, 2, 8, 16, 1, 4, 2, 2};
        for (int what = 0; what < 8; what++) {
            Check.due("classes " + what, x.classes(0, what), due[what]);
        }
        x = Check.withLand("cross 0 1;cross 0 0;cross;inn 2;cross 3;cross 4 3;");
        // 0: 2 of it, 3 to it; 1: 2, 1; 2: 0, 0; 3: 1, 2; 4: 2, 1
        int[] others = {4, 2, 4 + 16, 0, 3, 1, 4, 0};
        for (int what = 0; what < 8; what++) {
            Check.due("others " + what, x.classes(0, what), others[what]);
        }
        Check.due("even", Check.withLand("cross 1;cross 0 0;cross 1;").classes(0, 6), 2);
        Check.due("busy of several", Check.withLand("cross;cross 2;cross 1;").classes(0, 7), 1);
        Check.due("one ring", Check.withLand("cross 1;cross 2;cross 0;").classes(0, 1), 3);
        Check.due("four alike", Check.withLand("cross 0 0 0 0;").classes(0, 5), 6);
    }

    private static void classesOfNone() {
        TurnedPosts x = Check.withLand("");
        int[] due = {0, 0, 0, 0, 0, 0, 0, NONE};
        for (int what = 0; what < 8; what++) {
            Check.due("none " + what, x.classes(0, what), due[what]);
        }
        x = Check.withLand("cross;cross;");
        int[] two = {2, 1, 3, 3, 0, 0, 3, 0};
        for (int what = 0; what < 8; what++) {
            Check.due("two " + what, x.classes(0, what), two[what]);
        }
    }

    private static void ledDue(TurnedPosts x, int c, int steps, int where, int ring) {
        Check.due("led " + c, x.led(0, c, 0), steps);
        Check.due("led to " + c, x.led(0, c, 1), where);
        Check.due("ring " + c, x.led(0, c, 2), ring);
    }

    private static void led() {
        TurnedPosts x = Check.withLand(LAND + "post 0 1;post 3 3;");
        ledDue(x, 0, 2, 2, 0);
        ledDue(x, 1, 1, 2, 0);
        ledDue(x, 2, 0, 2, 0);
        ledDue(x, 3, 1, 4, 0);
        ledDue(x, 4, 0, 4, 0);
        x = Check.withLand(LAND + "post 1 1;post 0 2;");
        ledDue(x, 0, NONE, NONE, 2);
        x = Check.withLand("cross 1;cross 2;cross 3;cross 4;cross 5;cross 6;cross 6;");
        ledDue(x, 0, NONE, NONE, 1);
        x = Check.withLand("cross 1;cross 2;cross 3;cross 4;cross 5;cross 6;cross 0;");
        ledDue(x, 3, NONE, NONE, 7);
        x = Check.withLand("cross 1;cross 2;cross 3;cross 4;cross 5;cross 6;cross 0;inn 6;");
        ledDue(x, 0, 6, 6, 0);
    }

    private static void wrongInputs() {
        TurnedPosts x = Check.withLand(LAND);
        for (int i : new int[] {-1, 5, 7, Integer.MAX_VALUE, Integer.MIN_VALUE}) {
            Check.due("far " + i, x.far(0, i, 0) + x.far(0, 0, i) + x.far(i, 0, 0), -3);
            Check.due("reach " + i, x.reach(0, i, 0) + x.reach(i, 0, 1), -4);
            Check.due("led " + i, x.led(0, i, 0) + x.led(i, 0, 0), -4);
            Check.due("classes " + i, x.classes(i, 0), -2);
        }
        Check.due("reach what", x.reach(0, 0, 2) + x.reach(0, 0, -1), -4);
        Check.due("led what", x.led(0, 0, 3) + x.led(0, 0, -1), -4);
        Check.due("classes what", x.classes(0, 8) + x.classes(0, -1), -4);
    }
}
