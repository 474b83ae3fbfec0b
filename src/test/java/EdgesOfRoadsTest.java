/** Term 5, promises 22 to 25: each sentence that names a boundary, on both sides of it. */
public final class EdgesOfRoadsTest {
    private static final int NONE = TurnedPosts.NONE;
    private static final String ROW = "cross 1;cross 2;cross 3;cross 4;cross 5;cross 6;cross;";
    private static final String RING = "cross 1;cross 2;cross 3;cross 4;cross 5;cross 6;cross 0;";

    public static void main(String[] args) {
        innsHaveNoRoads();
        far();
        farRefused();
        reach();
        nearest();
        nearestOfSeveral();
        reachRefused();
        classes();
        heads();
        ends();
        loops();
        doubles();
        even();
        busy();
        classesOfNone();
        classesRefused();
        led();
        ledNever();
        ring();
        ledRefused();
        Check.done("EdgesOfRoadsTest");
    }

    private static void innsHaveNoRoads() {
        Check.sentence("(Of a LAND as told, INNS have no ROADS on here.)");
        String told = "cross 1;cross 0 1 1;post 1 2;";
        TurnedPosts x = Check.withLand(told);
        TurnedPosts y = Check.withLand(told + "inn 1;");
        Check.dues("far, no inn", i -> x.far(0, 1, i), 0, 1, 0);
        Check.dues("far, an inn", i -> y.far(0, 1, i), 0, NONE, 0);
        Check.dues("reach, no inn", c -> x.reach(0, c, 0), 0, 3, 3);
        Check.dues("reach, an inn", c -> y.reach(0, c, 0), 0, 3, 2);
        Check.dues("classes, no inn", what -> x.classes(0, what), 0, 1, 2, 0, 0, 2, 1, 3, 1);
        Check.dues("classes, an inn", what -> y.classes(0, what), 0, 2, 1, 1, 0, 0, 0, 0, 1);
        Check.dues("led, no inn", what -> x.led(0, 1, what), 0, NONE, NONE, 1);
        Check.dues("led, an inn", what -> y.led(0, 1, what), 0, 0, 1, 0);
        Check.dues("unused, no inn", c -> x.cover(0, c, 2), 0, 0, 0);
        Check.dues("unused, an inn", c -> y.cover(0, c, 2), 0, 0, 0);
        Check.dues("the roads are there all the same", what -> y.land(0, what), 110, 0, 1, 1);
    }

    // ---- FAR, REACH, NEAREST ----

    private static void far() {
        Check.sentence("FAR from a CROSSING to another one: the fewest ROADS by which one comes from the one to the other (to itself 0; "
            + "none: none).");
        TurnedPosts row = Check.withLand(ROW);
        TurnedPosts ring = Check.withLand(RING);
        for (int a = 0; a < 7; a++) {
            for (int b = 0; b < 7; b++) {
                Check.due("in a row " + a + b, row.far(0, a, b), b >= a ? b - a : NONE);
                Check.due("in a ring " + a + b, ring.far(0, a, b), (b - a + 7) % 7);
            }
        }
        TurnedPosts x = Check.withLand("cross 1 2;cross 3;cross 1 2 4 3;cross 3 4;cross;");
        Check.dues("the fewest", b -> x.far(0, 0, b), 0, 0, 1, 1, 2, 2);
        Check.dues("to itself", b -> x.far(0, 3, b), 0, NONE, NONE, NONE, 0, 1);
        Check.due("an inn's", Check.withLand("cross 0;inn 0;").far(0, 0, 0), 0);
    }

    private static void farRefused() {
        Check.sentence("FAR. NONE: none, or there is none such (of any).");
        TurnedPosts x = new TurnedPosts();
        Check.due("no land", x.far(0, 0, 0), NONE);
        Check.due("land", Check.land(x, "cross 1;cross 0;"), 0);
        Check.bounds("land", i -> x.far(i, 0, 0), 0, 0, NONE);
        Check.due("land", Check.land(x, RING), 1);
        Check.bounds("land", i -> x.far(i, 0, 1), 0, 1, NONE);
        Check.bounds("a", a -> x.far(0, a, 0), 0, 1, NONE);
        Check.bounds("b", b -> x.far(0, 0, b), 0, 1, NONE);
        Check.bounds("a", a -> x.far(1, a, 0), 0, 6, NONE);
        Check.bounds("b", b -> x.far(1, 0, b), 0, 6, NONE);
    }

    private static void reach() {
        Check.sentence("REACH of a CROSSING: CROSSINGS (bits) to which there is FAR (it, too).");
        TurnedPosts row = Check.withLand(ROW);
        Check.dues("in a row", c -> row.reach(0, c, 0), 0, 127, 126, 124, 120, 112, 96, 64);
        TurnedPosts ring = Check.withLand(RING);
        Check.dues("in a ring", c -> ring.reach(0, c, 0), 0, 127, 127, 127, 127, 127, 127, 127);
        TurnedPosts x = Check.withLand("cross 2 2;cross;cross;inn 2;");
        Check.dues("reach", c -> x.reach(0, c, 0), 0, 5, 2, 4);
    }

    private static void nearest() {
        Check.sentence("NEAREST of a CROSSING: the INN to which it is least FAR .. (none: none)");
        TurnedPosts x = Check.withLand(ROW + "inn 6;inn 3;");
        Check.dues("in a row", c -> x.reach(0, c, 1), 0, 3, 3, 3, 3, 6, 6, 6);
        TurnedPosts none = Check.withLand(ROW);
        Check.dues("no inn", c -> none.reach(0, c, 1), 0, NONE, NONE, NONE, NONE, NONE, NONE, NONE);
        TurnedPosts last = Check.withLand(ROW + "inn 6;");
        Check.due("six roads", last.reach(0, 0, 1), 6);
        TurnedPosts out = Check.withLand("cross 1;cross;cross;inn 2;");
        Check.dues("out of reach", c -> out.reach(0, c, 1), 0, NONE, NONE, 2);
    }

    private static void nearestOfSeveral() {
        Check.sentence("of several the least");
        Check.due("2 and 3", Check.withLand("cross 3 2;cross;cross;cross;inn 3;inn 2;").reach(0, 0, 1), 2);
        Check.due("3, as 1 is farther", Check.withLand("cross 3 2;cross;cross 1;cross;inn 1;inn 3;").reach(0, 0, 1), 3);
        Check.due("itself", Check.withLand("cross;cross 0;inn 0;inn 1;").reach(0, 1, 1), 1);
        Check.due("0 and 2", Check.withLand("cross;cross 2 0;cross;inn 0;inn 2;").reach(0, 1, 1), 0);
        Check.due("5 and 6", Check.withLand("cross 6 5;cross;cross;cross;cross;cross;cross;inn 5;inn 6;").reach(0, 0, 1), 5);
    }

    private static void reachRefused() {
        Check.sentence("Of a CROSSING, what 0: REACH (bits), 1: NEAREST (NONE). -2: there is none such (of either), or for another what.");
        TurnedPosts x = new TurnedPosts();
        Check.due("no land", x.reach(0, 0, 0), -2);
        Check.due("land", Check.land(x, "cross;cross;"), 0);
        Check.bounds("land", i -> x.reach(i, 0, 0), 0, 0, -2);
        Check.due("land", Check.land(x, RING), 1);
        Check.bounds("land", i -> x.reach(i, 0, 1), 0, 1, -2);
        Check.bounds("crossing", c -> x.reach(0, c, 0), 0, 1, -2);
        Check.bounds("crossing", c -> x.reach(1, c, 1), 0, 6, -2);
        Check.bounds("what", what -> x.reach(0, 0, what), 0, 1, -2);
    }

    // ---- CLASSES, HEADS, ENDS, LOOPS, DOUBLES, EVEN, BUSY ----

    private static void classDue(int what, String land, int due) {
        Check.due("classes, what " + what + " in " + land, Check.withLand(land).classes(0, what), due);
    }

    private static void classes() {
        Check.sentence("CLASSES: CROSSINGS each of which is in the REACH of the other are of one: how many; how many the largest has.");
        String[] lands = {ROW, RING, "", "cross;", "cross 0;", "cross 1;cross 0;", "cross 1;cross 0;inn 1;",
            "cross 1;cross 2 3;cross 0;cross 4;cross 3;", "cross;cross 2;cross 1;cross 4;cross 5;cross 3;cross 0;"};
        int[] many = {7, 1, 0, 1, 1, 1, 2, 2, 4};
        int[] largest = {1, 7, 0, 1, 1, 2, 1, 3, 3};
        for (int i = 0; i < lands.length; i++) {
            classDue(0, lands[i], many[i]);
            classDue(1, lands[i], largest[i]);
        }
    }

    private static void heads() {
        Check.sentence("HEADS: CROSSINGS (bits) to which no ROAD of another one leads.");
        classDue(2, "", 0);
        classDue(2, "cross;", 1);
        classDue(2, "cross 0;", 1);
        classDue(2, "cross 0;cross 0;", 2);
        classDue(2, "cross 1;cross 0;", 0);
        classDue(2, "cross 1;cross 0;inn 1;", 1);
        classDue(2, ROW, 1);
        classDue(2, RING, 0);
        classDue(2, "cross;".repeat(7), 127);
    }

    private static void ends() {
        Check.sentence("ENDS: CROSSINGS (bits) that are no INNS and have no ROADS.");
        classDue(3, "cross;", 1);
        classDue(3, "cross;inn 0;", 0);
        classDue(3, "cross 0;", 0);
        classDue(3, "cross 0;inn 0;", 0);
        classDue(3, "cross 0;cross;cross 1;cross;inn 3;", 2);
        classDue(3, "cross;".repeat(7), 127);
        classDue(3, ROW, 64);
    }

    private static void loops() {
        Check.sentence("LOOPS: ROADS that lead to where they begin");
        classDue(4, "cross 0;", 1);
        classDue(4, "cross 0;inn 0;", 0);
        classDue(4, "cross 0 1 0 0;cross 0 1;", 4);
        classDue(4, "cross 1;cross 0;", 0);
        classDue(4, "cross 0 0 0 0;cross 1 1 1 1;cross 2 2 2 2;cross 3 3 3 3;cross 4 4 4 4;cross 5 5 5 5;cross 6 6 6 6;", 28);
    }

    private static void doubles() {
        Check.sentence("DOUBLES: couples of ROADS of one CROSSING that lead to one");
        classDue(5, "cross 0;", 0);
        classDue(5, "cross 0 0;", 1);
        classDue(5, "cross 0 0;inn 0;", 0);
        classDue(5, "cross 1 1 1;cross;", 3);
        classDue(5, "cross 1 1 1 1;cross;", 6);
        classDue(5, "cross 1 0 1 0;cross;", 2);
        classDue(5, "cross 1 2 0;cross 2;cross 2;", 0);
        classDue(5, "cross 0 0 0 0;".repeat(7), 42);
    }

    private static void even() {
        Check.sentence("EVEN: CROSSINGS (bits) to which as many ROADS lead as there are of it.");
        classDue(6, "cross;", 1);
        classDue(6, "cross 0;", 1);
        classDue(6, "cross 1;cross;", 0);
        classDue(6, "cross 1;cross 0;", 3);
        classDue(6, "cross 1;cross 0;inn 1;", 0);
        classDue(6, "cross 1 1;cross 0;", 0);
        classDue(6, "cross 1 1;cross 0 0;", 3);
        classDue(6, "cross 0 1;cross 0;cross 2;", 7);
        classDue(6, RING, 127);
        classDue(6, ROW, 62);
    }

    private static void busy() {
        Check.sentence("BUSY: the CROSSING to which most ROADS lead, of several the least (no CROSSINGS: none).");
        classDue(7, "", NONE);
        classDue(7, "cross;", 0);
        classDue(7, "cross;cross;", 0);
        classDue(7, "cross;cross 1;", 1);
        classDue(7, "cross 0;cross 1;", 0);
        classDue(7, "cross 0;cross 1 1;", 1);
        classDue(7, "cross 1 1;cross 0 0 0;inn 1;", 1);
        classDue(7, "cross 6;cross 5;cross 5 6;cross;cross;cross;cross;", 5);
        classDue(7, "cross 6;cross 6;cross 5 6;cross;cross;cross;cross;", 6);
    }

    private static void classesOfNone() {
        Check.sentence("7: BUSY (NONE)");
        TurnedPosts x = Check.withLand("");
        Check.dues("classes", what -> x.classes(0, what), -1, -2, 0, 0, 0, 0, 0, 0, 0, NONE, -2);
    }

    private static void classesRefused() {
        Check.sentence("-2: there is none such, or for another what.");
        TurnedPosts x = new TurnedPosts();
        Check.due("no land", x.classes(0, 0), -2);
        Check.due("land", Check.land(x, "cross;"), 0);
        Check.bounds("land", i -> x.classes(i, 0), 0, 0, -2);
        Check.due("land", Check.land(x, RING), 1);
        Check.bounds("land", i -> x.classes(i, 7), 0, 1, -2);
        Check.bounds("what", what -> x.classes(0, what), 0, 7, -2);
        Check.bounds("what", what -> x.classes(1, what), 0, 7, -2);
    }

    // ---- LED, RING ----

    private static void ledDue(String land, int c, int steps, int where, int ring) {
        TurnedPosts x = Check.withLand(land);
        Check.dues("led from " + c + " in " + land, what -> x.led(0, c, what), 0, steps, where, ring);
    }

    private static void led() {
        Check.sentence("LED from a CROSSING, the way POSTS point, nothing turning: how many STEPS to an INN or an END .. where that is");
        ledDue("cross;", 0, 0, 0, 0);
        ledDue("cross;inn 0;", 0, 0, 0, 0);
        ledDue("cross 0;inn 0;", 0, 0, 0, 0);
        ledDue("cross 1;cross;", 0, 1, 1, 0);
        ledDue("cross 1 2;cross;cross;inn 1;", 0, 1, 1, 0);
        ledDue("cross 1 2;cross;cross;inn 1;post 0 1;", 0, 1, 2, 0);
        ledDue("cross 1;cross 2;cross;inn 1;", 0, 1, 1, 0);
        ledDue("cross 1;cross 2;cross;inn 2;", 0, 2, 2, 0);
        ledDue(ROW, 0, 6, 6, 0);
        ledDue(ROW + "inn 6;", 1, 5, 6, 0);
        ledDue("cross 1 1 1 0;cross;post 0 3;", 0, NONE, NONE, 1);
    }

    private static void ledNever() {
        Check.sentence("(none: never)");
        ledDue("cross 0;", 0, NONE, NONE, 1);
        ledDue("cross 0 1;cross;", 0, NONE, NONE, 1);
        ledDue("cross 0 1;cross;post 0 1;", 0, 1, 1, 0);
        ledDue(RING, 0, NONE, NONE, 7);
        ledDue(RING + "inn 0;", 1, 6, 0, 0);
        ledDue(RING + "inn 0;", 0, 0, 0, 0);
    }

    private static void ring() {
        Check.sentence("else RING: how many CROSSINGS are in the ring to which one is led.");
        for (int size = 1; size <= 7; size++) {
            StringBuilder land = new StringBuilder();
            for (int c = 0; c < 7; c++) {
                land.append("cross ").append(c == 6 ? 7 - size : c + 1).append(';');
            }
            for (int c = 0; c < 7; c++) {
                ledDue(land.toString(), c, NONE, NONE, size);
            }
        }
        Check.sentence("2: RING (0: none)");
        ledDue(ROW, 3, 3, 6, 0);
        ledDue("cross 1;cross 0;cross;", 2, 0, 2, 0);
        ledDue("cross 1;cross 0;cross 3;cross;", 2, 1, 3, 0);
    }

    private static void ledRefused() {
        Check.sentence("Of a CROSSING, what 0: LED, STEPS (NONE), 1: where (NONE), 2: RING (0: none). -2: there is none such "
            + "(of either), or for another what.");
        TurnedPosts x = new TurnedPosts();
        Check.due("no land", x.led(0, 0, 0), -2);
        Check.due("land", Check.land(x, "cross;cross;"), 0);
        Check.bounds("land", i -> x.led(i, 0, 0), 0, 0, -2);
        Check.due("land", Check.land(x, RING), 1);
        Check.bounds("land", i -> x.led(i, 0, 1), 0, 1, -2);
        Check.bounds("crossing", c -> x.led(0, c, 2), 0, 1, -2);
        Check.bounds("crossing", c -> x.led(1, c, 0), 0, 6, -2);
        Check.bounds("what", what -> x.led(0, 0, what), 0, 2, -2);
        Check.bounds("what", what -> x.led(1, 0, what), 0, 2, -2);
    }
}
