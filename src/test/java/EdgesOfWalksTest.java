/** Terms 3 and 5, promises 10 to 13, 26, 27, 30: each sentence that names a boundary, on both sides of it. */
public final class EdgesOfWalksTest {
    private static final int NONE = TurnedPosts.NONE;
    private static final String FAR = EdgesOfDaysTest.FAR;
    private static final String LAND = "cross 1 2;cross 0 2;cross;inn 2;";

    public static void main(String[] args) {
        ofALandAsTold();
        walk();
        visits();
        walkRefused();
        end();
        endLowestFirst();
        endRefused();
        come();
        comeRefused();
        periodBehindFewer();
        periodUpTo999();
        periodRefused();
        cover();
        coverBy499();
        comesBack();
        comesBackBy499();
        unused();
        round();
        roundUpTo999();
        coverRefused();
        share();
        shareRefused();
        keys();
        keysFirst();
        keysRefused();
        Check.done("EdgesOfWalksTest");
    }

    // ---- WALK ----

    private static void ofALandAsTold() {
        Check.sentence("(Of a LAND as told.)");
        TurnedPosts x = Check.withLand("cross 1 0;cross;inn 1;walkers 0 5;walkers 1 9;");
        for (int time = 0; time < 3; time++) {
            Check.dues("walk", what -> x.walk(0, 0, what), 0, 2, 1, 1);
            Check.dues("end", what -> x.endOf(0, what), 10, 0, 14);
            Check.due("come", x.come(0, 0, 3), 1);
            Check.due("period", x.period(0, 0, true), 0);
            Check.due("share", x.share(0, 0, 4, 1), 4);
            Check.dues("cover", what -> x.cover(0, 0, what), 0, 2, 1, 0, NONE);
            Check.due("keys", x.keys(0, 0, false), 1);
        }
    }

    private static void walk() {
        Check.sentence("how many STEPS, where he is in the end, whether at an INN (1, else 0)");
        TurnedPosts x = Check.withLand(LAND + "cross;cross 3;cross 5 5;cross 2;");
        Check.dues("by one step", what -> x.walk(0, 0, what), 0, 1, 2, 1);
        Check.dues("at the inn", what -> x.walk(0, 2, what), 0, 0, 2, 1);
        Check.dues("at an end", what -> x.walk(0, 3, what), 0, 0, 3, 0);
        Check.dues("to an end", what -> x.walk(0, 4, what), 0, 1, 3, 0);
        Check.dues("to none", what -> x.walk(0, 5, what), 0, 499, 5, 0);
        TurnedPosts far = Check.withLand(FAR);
        Check.dues("499", what -> far.walk(0, 0, what), 0, 499, 5, 1);
        Check.dues("500", what -> far.walk(0, 6, what), 0, 499, 4, 0);
        TurnedPosts innAhead = Check.withLand("cross 1;cross 2;cross;inn 1;inn 2;");
        Check.dues("no further than the first inn", what -> innAhead.walk(0, 0, what), 0, 1, 1, 1);
    }

    private static void visits() {
        Check.sentence("how often he was at a CROSSING (as he is put there, too)");
        TurnedPosts x = Check.withLand(LAND + "cross;cross 4;cross 6;cross 5;post 0 1;post 1 1;");
        Check.dues("from 0", what -> x.walk(0, 0, what), 9, -2, 2, 1, 1, 0, 0, 0, 0, -2);
        Check.dues("from the inn", what -> x.walk(0, 2, what), 10, 0, 0, 1, 0, 0, 0, 0);
        Check.dues("from an end", what -> x.walk(0, 3, what), 10, 0, 0, 0, 1, 0, 0, 0);
        Check.dues("499 steps to itself", what -> x.walk(0, 4, what), 10, 0, 0, 0, 0, 500, 0, 0);
        Check.dues("499 steps to and fro", what -> x.walk(0, 5, what), 10, 0, 0, 0, 0, 0, 250, 250);
    }

    private static void walkRefused() {
        Check.sentence("-2: there is none such (of any), or for another what.");
        TurnedPosts x = new TurnedPosts();
        Check.due("no land", x.walk(0, 0, 0), -2);
        Check.due("land", Check.land(x, LAND), 0);
        Check.bounds("land", i -> x.walk(i, 0, 0), 0, 0, -2);
        Check.due("land", Check.land(x, "cross;".repeat(7)), 1);
        Check.bounds("land", i -> x.walk(i, 0, 0), 0, 1, -2);
        Check.bounds("crossing", c -> x.walk(0, c, 0), 0, 2, -2);
        Check.bounds("crossing", c -> x.walk(1, c, 0), 0, 6, -2);
        Check.bounds("what", what -> x.walk(0, 0, what), 0, 2, -2);
        Check.bounds("visits", what -> x.walk(0, 0, what), 10, 12, -2);
        Check.bounds("visits", what -> x.walk(1, 0, what), 10, 16, -2);
        Check.dues("what", what -> x.walk(0, 0, what), 3, -2, -2, -2, -2, -2, -2, -2);
        Check.due("land of none", Check.text(x, 0, 0, ""), 0);
        Check.due("no crossing", x.walk(0, 0, 0), -2);
    }

    // ---- END ----

    private static void end() {
        Check.sentence("END: all WALKERS as told go, each by a WALK .. how many are at a CROSSING in the end; how many STEPS in all; "
            + "where a POST points then");
        TurnedPosts none = Check.withLand("cross 0 0;post 0 1;");
        Check.due("no walkers", none.endOf(0, 0), 0);
        Check.due("no walkers", none.endOf(0, 10), 0);
        Check.due("no walkers", none.endOf(0, 20), 1);
        TurnedPosts empty = Check.withLand("");
        Check.due("no crossings", empty.endOf(0, 0), 0);
        TurnedPosts nine = Check.withLand("cross 1 0 0 0;cross;cross 1;inn 1;walkers 0 9;walkers 1 9;walkers 2 9;");
        Check.due("nine of each", nine.endOf(0, 0), 9 * 4 + 9);
        Check.dues("all at the inn", what -> nine.endOf(0, what), 10, 0, 27, 0);
        Check.dues("posts", what -> nine.endOf(0, what), 20, 0, 0, 0);
    }

    private static void endLowestFirst() {
        Check.sentence("of the lowest CROSSING first");
        TurnedPosts x = Check.withLand("cross 1 2;cross 0 0;cross 0;walkers 0 1;walkers 2 1;");
        Check.dues("at", what -> x.endOf(0, what), 10, 1, 1, 0);
        Check.dues("posts", what -> x.endOf(0, what), 20, 1, 0, 0);
        TurnedPosts y = Check.withLand("cross 1 2;cross 1 2;cross 2 1;post 0 1;post 2 1;walkers 0 1;walkers 1 1;walkers 2 1;");
        Check.dues("at", what -> y.endOf(0, what), 10, 0, 2, 1);
        Check.dues("posts", what -> y.endOf(0, what), 20, 0, 0, 1);
        // one who comes to a higher crossing is done: he goes not again
        TurnedPosts z = Check.withLand("cross 1;cross;cross 1;walkers 0 9;walkers 1 9;walkers 2 1;");
        Check.due("steps", z.endOf(0, 0), 10);
        Check.dues("at", what -> z.endOf(0, what), 10, 0, 19, 0);
    }

    private static void endRefused() {
        Check.sentence("END, what 0: STEPS, 10 + c: how many are at a CROSSING, 20 + c: where a POST points. -2: there is none such "
            + "(of either), or for another what.");
        TurnedPosts x = new TurnedPosts();
        Check.due("no land", x.endOf(0, 0), -2);
        Check.due("land", Check.land(x, "cross;cross;"), 0);
        Check.bounds("land", i -> x.endOf(i, 0), 0, 0, -2);
        Check.due("land", Check.land(x, "cross;".repeat(7)), 1);
        Check.bounds("land", i -> x.endOf(i, 0), 0, 1, -2);
        for (int what = -50; what < 100; what++) {
            boolean answers = what == 0 || what >= 10 && what < 30 && what % 10 < 2;
            Check.due("end, what " + what, x.endOf(0, what), answers ? 0 : -2);
        }
        Check.bounds("steps", what -> x.endOf(0, what), 0, 0, -2);
        Check.bounds("at", what -> x.endOf(1, what), 10, 16, -2);
        Check.bounds("posts", what -> x.endOf(1, what), 20, 26, -2);
    }

    // ---- COME, SHARE ----

    private static void come() {
        Check.sentence("COME of a CROSSING, k, 1 .. 99: WALKERS are put there, each when the one ahead is done: "
            + "where the k-th is in the end.");
        TurnedPosts x = Check.withLand("cross 1 2 3 4;cross;cross;cross;cross;inn 1;inn 3;");
        for (int k = 1; k <= 99; k++) {
            Check.due("come " + k, x.come(0, 0, k), k % 4 + 1);
        }
        Check.bounds("k", k -> x.come(0, 0, k), 1, 99, NONE);
        Check.due("0", x.come(0, 0, 0), NONE);
        Check.due("100", x.come(0, 0, 100), NONE);
        Check.due("from the inn", x.come(0, 3, 99), 3);
        Check.due("from an end", x.come(0, 2, 99), 2);
        TurnedPosts far = Check.withLand(FAR);
        Check.due("by 499 steps", far.come(0, 0, 1), 5);
        Check.due("by 500 steps", far.come(0, 6, 1), 4);
    }

    private static void comeRefused() {
        Check.sentence("COME of a CROSSING, k. NONE: another k, or there is none such (of either).");
        TurnedPosts x = new TurnedPosts();
        Check.due("no land", x.come(0, 0, 1), NONE);
        Check.due("land", Check.land(x, LAND), 0);
        Check.bounds("land", i -> x.come(i, 0, 1), 0, 0, NONE);
        Check.due("land", Check.land(x, "cross;".repeat(7)), 1);
        Check.bounds("land", i -> x.come(i, 0, 1), 0, 1, NONE);
        Check.bounds("crossing", c -> x.come(0, c, 1), 0, 2, NONE);
        Check.bounds("crossing", c -> x.come(1, c, 99), 0, 6, NONE);
    }

    private static void share() {
        Check.sentence("SHARE of a CROSSING, k, 0 .. 99, an INN: how many of the first k that are put there (as COME) come to it.");
        TurnedPosts x = Check.withLand("cross 1 2 3 4;cross;cross;cross;cross;inn 1;inn 3;post 0 3;");
        for (int k = 0; k <= 99; k++) {
            Check.due("share of 1, " + k, x.share(0, 0, k, 1), (k + 3) / 4);
            Check.due("share of 3, " + k, x.share(0, 0, k, 3), (k + 1) / 4);
        }
        Check.bounds("k", k -> x.share(0, 0, k, 1), 0, 99, NONE);
        Check.due("0", x.share(0, 1, 0, 1), 0);
        Check.due("from the inn", x.share(0, 1, 99, 1), 99);
        Check.due("from the inn to another", x.share(0, 1, 99, 3), 0);
        TurnedPosts far = Check.withLand(FAR);
        Check.due("by 499 steps", far.share(0, 0, 1, 5), 1);
        Check.due("by 500 steps", far.share(0, 6, 1, 5), 0);
    }

    private static void shareRefused() {
        Check.sentence("SHARE. NONE: another k, it is no INN, or there is none such (of any).");
        TurnedPosts x = new TurnedPosts();
        Check.due("no land", x.share(0, 0, 1, 2), NONE);
        Check.due("land", Check.land(x, LAND), 0);
        Check.bounds("land", i -> x.share(i, 0, 1, 2), 0, 0, NONE);
        Check.due("land", Check.land(x, "cross;".repeat(7) + "inn 2;inn 0;inn 6;"), 1);
        Check.bounds("land", i -> x.share(i, 0, 1, 2), 0, 1, NONE);
        Check.bounds("crossing", c -> x.share(0, c, 0, 2), 0, 2, NONE);
        Check.bounds("crossing", c -> x.share(1, c, 0, 2), 0, 6, NONE);
        Check.bounds("inn", inn -> x.share(0, 0, 0, inn), 2, 2, NONE);
        Check.bounds("inn", inn -> x.share(1, 0, 0, inn), 0, 6, NONE);
        Check.dues("no inn", inn -> x.share(1, 0, 0, inn), 0, 0, NONE, 0, NONE, NONE, NONE, 0, NONE);
        Check.bounds("k", k -> x.share(1, 1, k, 2), 0, 99, NONE);
    }

    // ---- PERIOD ----

    private static void periodDue(String land, int c, int period, int ahead) {
        TurnedPosts x = Check.withLand(land);
        Check.due("period of " + land, x.period(0, c, false), period);
        Check.due("ahead of " + land, x.period(0, c, true), ahead);
    }

    private static void periodBehindFewer() {
        Check.sentence("PERIOD of a CROSSING: WALKERS are put there so, till all POSTS are as they were behind fewer (none, too): "
            + "how many, less those fewer");
        periodDue("cross;inn 0;", 0, 1, 0);
        periodDue("cross 0 0 0;inn 0;post 0 2;", 0, 1, 0);
        periodDue("cross;", 0, 1, 0);
        periodDue("cross 1;cross;", 0, 1, 0);
        periodDue("cross 1 1;cross;", 0, 2, 0);
        periodDue("cross 1 1 1 1;cross;post 0 3;", 0, 4, 0);
        periodDue("cross 1 0;cross;inn 1;", 0, 1, 0);
        periodDue("cross 1 0;cross;inn 1;post 0 1;", 0, 1, 1);
        // 00, then 10, 01, 11 over and over
        periodDue(LAND, 0, 3, 1);
        periodDue(LAND + "post 0 1;", 0, 3, 0);
        // all posts: also those where no one comes by
        periodDue("cross 1 1;cross;cross 2 2 2;post 2 1;", 0, 2, 0);
    }

    private static void periodUpTo999() {
        Check.sentence("(up to 999; else none)");
        periodDue("cross 1 6 4;cross 6 2 4 0;cross 3 0 3;cross 6 4 4;cross 6 5 6 1;cross 6 6 6;cross;inn 6;"
            + "post 1 2;post 2 1;post 5 1;", 0, 999, 0);
        periodDue("cross 1 0 5;cross 6 6 6 2;cross 6 6 3 6;cross 6 6 4;cross 6 2 5 6;cross 4 6 3;cross;inn 6;"
            + "post 0 2;post 1 1;post 2 3;post 3 2;post 4 3;post 5 1;", 0, NONE, NONE);
        periodDue("cross 6 6 6 1;cross 6 6 2;cross 6 6 3;cross 6 6 4;cross 6 6 5;cross 6 6 6;cross;inn 6;", 0, 972, 0);
        periodDue("cross 6 6 6 1;cross 6 6 6 2;cross 6 6 6 3;cross 6 6 6 4;cross 6 6 6 6;cross;cross;inn 6;", 0, NONE, NONE);
    }

    private static void periodRefused() {
        Check.sentence("PERIOD of a CROSSING, or (ahead) those fewer. NONE: none, or there is none such (of either).");
        TurnedPosts x = new TurnedPosts();
        Check.due("no land", x.period(0, 0, false), NONE);
        Check.due("land", Check.land(x, LAND), 0);
        Check.bounds("land", i -> x.period(i, 0, false), 0, 0, NONE);
        Check.due("land", Check.land(x, "cross;".repeat(7)), 1);
        for (boolean ahead : new boolean[] {false, true}) {
            Check.bounds("land", i -> x.period(i, 0, ahead), 0, 1, NONE);
            Check.bounds("crossing", c -> x.period(0, c, ahead), 0, 2, NONE);
            Check.bounds("crossing", c -> x.period(1, c, ahead), 0, 6, NONE);
        }
    }

    // ---- COVER, RETURN, UNUSED, ROUND ----

    private static void coverDue(String land, int c, int cover, int comesBack, int unused, int round) {
        TurnedPosts x = Check.withLand(land);
        Check.dues("cover of " + c + " in " + land, what -> x.cover(0, c, what), 0, cover, comesBack, unused, round);
    }

    private static void cover() {
        Check.sentence("COVER of a CROSSING: by its WALK, the number of the STEP by which he has been at all CROSSINGS of its REACH "
            + "first (0: none is needed; none: never)");
        coverDue("cross;", 0, 0, NONE, 0, NONE);
        coverDue("cross;inn 0;", 0, 0, NONE, 0, NONE);
        coverDue("cross 1 1;cross;inn 0;", 0, 0, NONE, 0, NONE);
        coverDue("cross 0;", 0, 0, 1, 0, 1);
        coverDue("cross 0;cross 0;", 0, 0, 1, 0, 1);
        coverDue("cross 1;cross;", 0, 1, NONE, 0, NONE);
        coverDue("cross 1;cross 2;cross;inn 2;", 0, 2, NONE, 0, NONE);
        coverDue("cross 1 2;cross;cross;", 0, NONE, NONE, 1, NONE);
        coverDue("cross 1 0 2;cross 0;cross;inn 2;post 0 2;", 0, 4, 2, 0, NONE);
        coverDue("cross 1 0 2;cross 0;cross;inn 2;", 0, NONE, 1, 2, NONE);
    }

    private static void coverBy499() {
        Check.sentence("the number of the STEP by which he has been at all CROSSINGS of its REACH first .. none: never)");
        TurnedPosts x = Check.withLand("cross 0 0 1;cross 1 1 0 2;cross 0 3;cross 0 0 4;cross 4 1 1 5;cross 4 4 0 6;"
            + "cross 6 2 0 1;post 1 1;post 2 1;post 3 1;post 6 1;");
        Check.due("by the 499th", x.cover(0, 0, 0), 499);
        TurnedPosts y = Check.withLand("cross 0 0 0 1;cross 0 1 0 2;cross 0 3;cross 0 1 2 4;cross 3 0 5;cross 3 2 5 6;cross 1 6;");
        Check.due("by the 500th", y.cover(0, 0, 0), NONE);
        Check.due("by the 499th, the inn", Check.withLand(FAR).cover(0, 0, 0), 499);
        Check.due("by the 500th, the inn", Check.withLand(FAR).cover(0, 6, 0), NONE);
    }

    private static void comesBack() {
        Check.sentence("RETURN: the STEP by which he is there again first (none)");
        coverDue("cross 0 0;", 0, 0, 1, 0, 2);
        coverDue("cross 1;cross 0;", 0, 1, 2, 0, 2);
        coverDue("cross 1;cross 0;", 1, 1, 2, 0, 2);
        coverDue("cross 1;cross 1;", 0, 1, NONE, 0, 1);
        coverDue("cross;cross 0;", 1, 1, NONE, 0, NONE);
        Check.due("first", Check.withLand("cross 1 0;cross 0;").cover(0, 0, 1), 1);
        Check.due("first", Check.withLand("cross 1 0;cross 0;post 0 1;").cover(0, 0, 1), 2);
    }

    private static void comesBackBy499() {
        Check.sentence("the STEP by which he is there again first (none)");
        TurnedPosts x = Check.withLand("cross 0 0 0 1;cross 0 0 0 2;cross 1 1 2 3;cross 2 1 1 4;cross 4 2 2 5;cross 0;post 1 1;");
        Check.due("by the 499th", x.cover(0, 5, 1), 499);
        TurnedPosts y = Check.withLand("cross 0 0 0 1;cross 0 0 1 2;cross 0 0 2 3;cross 0 2 1 4;cross 1 0 1 5;cross 0;");
        Check.due("by the 500th", y.cover(0, 5, 1), NONE);
    }

    private static void unused() {
        Check.sentence("UNUSED: ROADS of CROSSINGS of its REACH that he does not go in his WALK.");
        TurnedPosts x = Check.withLand("cross 1 2;cross 1 1 2;cross 0 0;cross 3 3 3 3;inn 2;post 0 1;post 1 1;post 3 2;");
        Check.dues("unused", c -> x.cover(0, c, 2), 0, 3, 2, 0, 0);
        TurnedPosts ends = Check.withLand("cross;cross 0 0 0 0;cross 1;");
        Check.dues("to an end", c -> ends.cover(0, c, 2), 0, 0, 3, 3);
        // those of one walk are not gone in another
        TurnedPosts others = Check.withLand("cross 1 2;cross 0 2;cross;inn 2;post 0 1;post 1 1;");
        Check.dues("once", c -> others.cover(0, c, 2), 0, 1, 1, 0);
        Check.dues("again", c -> others.cover(0, c, 2), 0, 1, 1, 0);
    }

    private static void round() {
        Check.sentence("ROUND, of one who has gone 499 STEPS to no INN (else none): the fewest STEPS more .. behind which he is "
            + "where he was then, all POSTS pointing as then");
        Check.due("by 499 to the inn", Check.withLand(FAR).cover(0, 0, 3), NONE);
        Check.due("by 500 to the inn", Check.withLand(FAR).cover(0, 6, 3), NONE);
        Check.due("an inn", Check.withLand("cross 0;inn 0;").cover(0, 0, 3), NONE);
        Check.due("an end", Check.withLand("cross;").cover(0, 0, 3), NONE);
        Check.due("to an end", Check.withLand("cross 1;cross;").cover(0, 0, 3), NONE);
        Check.due("1", Check.withLand("cross 0;").cover(0, 0, 3), 1);
        Check.due("2", Check.withLand("cross 0 0;").cover(0, 0, 3), 2);
        Check.due("2", Check.withLand("cross 1;cross 0;").cover(0, 0, 3), 2);
        Check.due("where he was, but the posts not", Check.withLand("cross 1 0;cross 0;").cover(0, 0, 3), 3);
        Check.due("posts of others stay", Check.withLand("cross 0 0 0;cross 1 1;post 1 1;").cover(0, 0, 3), 3);
    }

    private static void roundUpTo999() {
        Check.sentence("999 at most .. (by none of these: none)");
        TurnedPosts x = Check.withLand("cross 4 3;cross 2 2 1 1;cross 3 3 1 5;cross 1 2 0;cross 5 5 3;cross 4 2 4 6;cross 6 0 5;");
        Check.due("999", x.cover(0, 0, 3), 999);
        TurnedPosts y = Check.withLand("cross 0 5 4 0;cross 2 3 6 0;cross 5;cross 2 4 6 1;cross 4 5 3 4;cross 0 4;cross 6 5 6 0;");
        Check.due("1000", y.cover(0, 0, 3), NONE);
    }

    private static void coverRefused() {
        Check.sentence("what 0: COVER (NONE), 1: RETURN (NONE), 2: UNUSED, 3: ROUND (NONE). -2: there is none such (of either), "
            + "or for another what.");
        TurnedPosts x = new TurnedPosts();
        Check.due("no land", x.cover(0, 0, 0), -2);
        Check.due("land", Check.land(x, LAND), 0);
        Check.bounds("land", i -> x.cover(i, 0, 0), 0, 0, -2);
        Check.due("land", Check.land(x, "cross;".repeat(7)), 1);
        Check.bounds("land", i -> x.cover(i, 0, 2), 0, 1, -2);
        Check.bounds("crossing", c -> x.cover(0, c, 0), 0, 2, -2);
        Check.bounds("crossing", c -> x.cover(1, c, 3), 0, 6, -2);
        Check.bounds("what", what -> x.cover(0, 0, what), 0, 3, -2);
    }

    // ---- KEYS ----

    private static void keys() {
        Check.sentence("KEYS of a CROSSING of which the WALK comes to an INN: ROADS each of which, being shut alone, makes that it "
            + "does not: how many");
        Check.due("one road", Check.withLand("cross 1;cross;inn 1;").keys(0, 0, false), 1);
        Check.due("two roads to it", Check.withLand("cross 1 1;cross;inn 1;").keys(0, 0, false), 0);
        Check.due("another inn does", Check.withLand("cross 1 2;cross;cross;inn 1;inn 2;").keys(0, 0, false), 0);
        Check.due("to an end then", Check.withLand("cross 2 1;cross;cross;inn 1;").keys(0, 0, false), 1);
        Check.due("never then", Check.withLand("cross 0 1;cross;inn 1;").keys(0, 0, false), 1);
        Check.due("roads not gone", Check.withLand("cross 1;cross;cross 0;inn 1;").keys(0, 0, false), 1);
        Check.due("of the inn", Check.withLand("cross 1;cross;inn 1;").keys(0, 1, false), 0);
        Check.due("an inn's roads are none", Check.withLand("cross 1;cross 0 0;inn 1;").keys(0, 0, false), 1);
        Check.due("six in a row", Check.withLand("cross 1;cross 2;cross 3;cross 4;cross 5;cross 6;cross;inn 6;").keys(0, 0, false), 6);
        // shut alone: with either road shut he goes by the other one
        Check.due("alone", Check.withLand("cross 1 2;cross 3;cross 3;cross;inn 3;").keys(0, 0, false), 1);
    }

    private static void keysFirst() {
        Check.sentence("the first, as 10 times the CROSSING, and the ROAD");
        Check.due("of 0, road 0", Check.withLand("cross 1;cross;inn 1;").keys(0, 0, true), 0);
        Check.due("of 0, road 1", Check.withLand("cross 2 1;cross;cross;inn 1;").keys(0, 0, true), 1);
        Check.due("of 0, road 3", Check.withLand("cross 2 2 2 1;cross;cross;inn 1;post 0 2;").keys(0, 0, true), 3);
        Check.due("of 6, road 0", Check.withLand("cross;cross;cross;cross;cross;cross;cross 0;inn 0;").keys(0, 6, true), 60);
        Check.due("of 6, road 3", Check.withLand("cross;cross;cross;cross;cross;cross;cross 1 1 1 0;inn 0;post 6 2;").keys(0, 6, true), 63);
        Check.due("first of three", Check.withLand("cross;cross 0;cross 1;cross 2;inn 0;").keys(0, 3, true), 10);
        Check.due("none", Check.withLand("cross 1 1;cross;inn 1;").keys(0, 0, true), NONE);
        Check.due("none of the inn", Check.withLand("cross 1;cross;inn 1;").keys(0, 1, true), NONE);
    }

    private static void keysRefused() {
        Check.sentence("KEYS, how many, or (first) the first (NONE). -2: it comes to no INN, or there is none such (of either).");
        for (boolean first : new boolean[] {false, true}) {
            TurnedPosts x = new TurnedPosts();
            Check.due("no land", x.keys(0, 0, first), -2);
            Check.due("land", Check.land(x, LAND), 0);
            Check.bounds("land", i -> x.keys(i, 0, first), 0, 0, -2);
            Check.due("land", Check.land(x, "cross 1;".repeat(7) + "inn 1;"), 1);
            Check.bounds("land", i -> x.keys(i, 0, first), 0, 1, -2);
            Check.bounds("crossing", c -> x.keys(0, c, first), 0, 2, -2);
            Check.bounds("crossing", c -> x.keys(1, c, first), 0, 6, -2);
            TurnedPosts far = Check.withLand(FAR);
            Check.due("by 499 steps", far.keys(0, 0, first) != -2, true);
            Check.due("by 500 steps", far.keys(0, 6, first), -2);
            TurnedPosts none = Check.withLand("cross 0;cross;cross 1;");
            Check.dues("to no inn", c -> none.keys(0, c, first), 0, -2, -2, -2);
        }
    }
}
