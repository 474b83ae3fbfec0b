/** Terms 3 and 5, promises 14 to 18, 28, 29: each sentence that names a boundary, on both sides of it. */
public final class EdgesOfWaysTest {
    private static final int NONE = TurnedPosts.NONE;
    private static final String FAR = EdgesOfDaysTest.FAR;
    private static final String LAND = "cross 1 2;cross 0 2;cross;inn 2;";
    /** By all ways one comes from 0 to the INN, by 499 STEPS at the most. */
    private static final String NEARER = "cross 0 0 0 1;cross 0 0 2;cross 1 0 2 3;cross 1 2 0 4;cross 4 0 0 5;cross;inn 5;";

    public static void main(String[] args) {
        setFewest();
        setLeastBits();
        setLeastRow();
        setEachToAny();
        setRowOfOthers();
        setByNone();
        setRefused();
        lot();
        lotInLeastTerms();
        lotOfNoInns();
        lotRefused();
        mean();
        meanNever();
        meanRefused();
        trees();
        treesOfNone();
        treesRefused();
        game();
        gameNever();
        gameFirst();
        gameRefused();
        longest();
        longestFirstWay();
        longestNone();
        longestRefused();
        back();
        backOfNoInns();
        backRefused();
        allWaysThereMayBe();
        tablesOfTwoLands();
        Check.done("EdgesOfWaysTest");
    }

    // ---- SET ----

    private static void setDue(String land, int c, int inn, int many, int which, int... row) {
        TurnedPosts x = Check.withLand(land);
        Check.due("set in " + land, x.set(0, c, inn, 0), many);
        Check.due("which in " + land, x.set(0, c, inn, 1), which);
        Check.dues("row in " + land, what -> x.set(0, c, inn, what), 10, row);
    }

    private static void setFewest() {
        Check.sentence("SET of a CROSSING, an INN: the fewest POSTS to be set anew .. so that a WALKER put there comes to that INN: how many");
        setDue("cross 1 2;cross;cross;inn 1;inn 2;", 0, 2, 0, 0, 0, 0, 0, NONE);
        setDue("cross 1 2;cross;cross;inn 1;inn 2;", 0, 1, 1, 1, 1, 0, 0, NONE);
        setDue("cross 1 2;cross;cross;inn 1;inn 2;", 1, 1, 0, 0, 0, 0, 0, NONE);
        setDue("cross 2 2 1;cross 0 3 4;cross 0 3 0 1;cross;cross;inn 3;inn 4;", 0, 4, 2, 3, 1, 1, 0, 0, 0, NONE);
        setDue("cross 1 3;cross 0 2;cross 0 2 0 4;cross;cross;post 1 1;inn 3;inn 4;", 0, 4, 3, 7, 1, 0, 2, 0, 0);
        // one who would come by his 500th STEP does not: a POST is to be set
        setDue(FAR, 0, 5, 0, 0, 0, 0, 0, 0, 0, 0, 0);
        setDue(FAR, 6, 5, 1, 1, 1, 0, 0, 0, 0, 0, 0);
    }

    private static void setLeastBits() {
        Check.sentence("which (bits), of several the least");
        setDue("cross 1 1 2;cross 3 4;cross 4;cross;cross;inn 3;inn 4;post 1 1;", 0, 4, 1, 1, 1, 1, 0, 0, 0);
        setDue("cross 1 2 3 0;cross 3 4 3 0;cross 4 0 0 2;cross;cross;post 0 1;post 1 2;post 2 1;inn 3;inn 4;", 0, 4, 2, 3,
            2, 0, 1, 0, 0);
        setDue("cross 2 0 1;cross 3 2 1;cross 3 2 4 2;cross;cross;post 0 1;post 1 2;post 2 2;inn 3;inn 4;", 0, 4, 2, 5,
            2, 2, 0, 0, 0);
    }

    private static void setLeastRow() {
        Check.sentence("of these the least row by CROSSINGS: the ROAD of a POST");
        setDue("cross 1 2 1 1;cross;cross;inn 1;inn 2;", 0, 1, 1, 1, 1, 0, 0);
        setDue("cross 1 2 1 1;cross;cross;inn 1;inn 2;", 0, 2, 0, 0, 0, 0, 0);
        setDue("cross 3 1 3 1;cross 0 2 0;cross 3 3 4 4;cross;cross;post 0 3;post 1 1;inn 3;inn 4;", 0, 4, 3, 7, 0, 0, 1, 0, 0);
        setDue("cross 2 3 3;cross 3 4 0 4;cross 1 3 0 3;cross;cross;post 1 1;post 2 2;inn 3;inn 4;", 0, 4, 3, 7, 2, 0, 3, 0, 0);
        setDue("cross 0 1 3;cross 0 0 4 2;cross 0 4 3 2;cross;cross;post 0 1;post 1 2;post 2 2;inn 3;inn 4;", 0, 4, 2, 3,
            0, 1, 2, 0, 0);
    }

    private static void setEachToAny() {
        Check.sentence("each to any of its ROADS");
        for (int r = 0; r < 4; r++) {
            StringBuilder land = new StringBuilder("cross");
            for (int k = 0; k < 4; k++) {
                land.append(k == (r + 1) % 4 ? " 2" : " 1");
            }
            String told = land + ";cross;cross;inn 1;inn 2;post 0 ";
            setDue(told + r + ";", 0, 2, 0, 0, r, 0, 0);
            setDue(told + (r + 1) % 4 + ";", 0, 2, 1, 1, r, 0, 0);
        }
    }

    private static void setRowOfOthers() {
        Check.sentence("10 + c: the ROAD of a POST then");
        setDue("cross 1 2;cross 0 0 0 0;cross 0 0;cross;cross 3 3;inn 1;inn 2;post 1 3;post 2 1;post 4 1;", 0, 1, 1, 1,
            1, 3, 1, 0, 1, NONE, NONE);
        setDue("cross;cross;cross;cross;cross;cross 0;cross 5 5 5 5;inn 0;post 6 3;", 6, 0, 0, 0, 0, 0, 0, 0, 0, 0, 3, NONE);
    }

    private static void setByNone() {
        Check.sentence("NONE: by none");
        setDue("cross 0 0;cross;inn 1;", 0, 1, NONE, NONE, NONE, NONE);
        setDue("cross;cross;inn 1;", 0, 1, NONE, NONE, NONE, NONE);
        setDue("cross 1;cross;cross;inn 1;inn 2;", 0, 2, NONE, NONE, NONE, NONE, NONE);
        setDue("cross;cross;inn 0;inn 1;", 0, 1, NONE, NONE, NONE, NONE);
        setDue("cross 0 1;cross;inn 1;", 0, 1, 0, 0, 0, 0);
        setDue("cross;cross 1 1;inn 0;", 1, 0, NONE, NONE, NONE, NONE);
        setDue("cross;cross 1 0;inn 0;", 1, 0, 0, 0, 0, 0);
    }

    private static void setRefused() {
        Check.sentence("NONE: by none, it is no INN, there is none such (of any), or for another what.");
        TurnedPosts x = new TurnedPosts();
        Check.due("no land", x.set(0, 0, 0, 0), NONE);
        Check.due("land", Check.land(x, LAND), 0);
        Check.bounds("land", i -> x.set(i, 0, 2, 0), 0, 0, NONE);
        Check.due("land", Check.land(x, "cross 2;cross 2;cross;cross 2;cross 2;cross 2;cross 2;inn 2;"), 1);
        Check.bounds("land", i -> x.set(i, 0, 2, 0), 0, 1, NONE);
        Check.bounds("crossing", c -> x.set(0, c, 2, 0), 0, 2, NONE);
        Check.bounds("crossing", c -> x.set(1, c, 2, 0), 0, 6, NONE);
        Check.due("the least inn", Check.text(x, 0, 0, "cross;cross 0;cross 0 0 0;inn 0;"), 0);
        Check.bounds("crossing", c -> x.set(0, c, 0, 0), 0, 2, NONE);
        Check.due("as it was", Check.text(x, 0, 0, LAND), 0);
        Check.bounds("inn", inn -> x.set(0, 0, inn, 0), 2, 2, NONE);
        Check.dues("inn", inn -> x.set(1, 0, inn, 0), -1, NONE, NONE, NONE, 0, NONE, NONE, NONE, NONE, NONE);
        for (int what = -50; what < 100; what++) {
            boolean answers = what == 0 || what == 1 || what >= 10 && what < 13;
            Check.due("set, what " + what, x.set(0, 0, 2, what), answers ? 0 : NONE);
        }
        Check.bounds("how many, which", what -> x.set(1, 0, 2, what), 0, 1, NONE);
        Check.bounds("row", what -> x.set(1, 0, 2, what), 10, 16, NONE);
    }

    // ---- LOT, MEAN ----

    private static void lotDue(String land, int c, int inn, int over, int under) {
        TurnedPosts x = Check.withLand(land);
        Check.due("lot N in " + land, x.lot(0, c, inn, false), over);
        Check.due("lot D in " + land, x.lot(0, c, inn, true), under);
    }

    private static void lot() {
        Check.sentence("LOT of a CROSSING, an INN: all POSTS of CROSSINGS that are no INNS pointing anywhere, all ways alike: "
            + "how likely a WALKER put there comes to it");
        lotDue("cross 1 1 1 2;cross;cross;inn 1;inn 2;", 0, 1, 3, 4);
        lotDue("cross 1 1 1 2;cross;cross;inn 1;inn 2;", 0, 2, 1, 4);
        lotDue(LAND, 0, 2, 1, 1);
        lotDue(NEARER, 0, 5, 1, 1);
        lotDue(NEARER + "cross 0;", 6, 5, 767, 768);
        // 6 POSTS of 4 ROADS each: one of 4096 ways
        lotDue("cross 1 0 0 0;cross 2 1 1 1;cross 3 2 2 2;cross 4 3 3 3;cross 5 4 4 4;cross 6 5 5 5;cross;inn 6;", 0, 6, 1, 1);
        lotDue("cross 1 5 5 5;cross 2 5 5 5;cross 3 5 5 5;cross 4 5 5 5;cross 6 5 5 5;cross 5;cross;inn 6;", 0, 6, 1, 1024);
    }

    private static void lotInLeastTerms() {
        Check.sentence("a fraction in least terms");
        lotDue("cross 1 2;cross;cross;inn 1;inn 2;cross 0 0 0;", 0, 1, 1, 2);
        lotDue("cross 1 1 2 2;cross;cross;inn 1;inn 2;", 0, 2, 1, 2);
        lotDue("cross 1 2 1;cross;cross;inn 1;inn 2;cross 3 3;", 0, 1, 2, 3);
        lotDue("cross 1;cross;cross 1 1 1;inn 1;", 0, 1, 1, 1);
        lotDue("cross 1;cross;cross 1 1 1;inn 1;inn 2;", 0, 2, 0, 1);
        lotDue("cross 1;cross;cross;inn 1;inn 2;", 1, 2, 0, 1);
        lotDue("cross 1;cross;cross;inn 1;inn 2;", 1, 1, 1, 1);
        lotDue("cross;cross 1 1;inn 0;", 1, 0, 0, 1);
    }

    private static void lotOfNoInns() {
        Check.sentence("all POSTS of CROSSINGS that are no INNS");
        lotDue("cross 1 2;cross 0 0 0;cross 0;inn 1;inn 2;", 0, 1, 1, 2);
        TurnedPosts x = Check.withLand("cross 1 2;cross 0 0 0;cross 0;inn 1;inn 2;post 1 2;");
        Check.due("mean", x.mean(0, 0, true), 1);
        Check.due("longest", x.longest(0, 0, true, true), 1000);
        Check.due("trees", x.trees(0), 2);
        Check.due("back", x.back(0, 1), 1);
    }

    private static void lotRefused() {
        Check.sentence("LOT, N, or (under) D. NONE: it is no INN, or there is none such (of any).");
        TurnedPosts x = new TurnedPosts();
        Check.due("no land", x.lot(0, 0, 0, false), NONE);
        Check.due("land", Check.land(x, LAND), 0);
        Check.bounds("land", i -> x.lot(i, 0, 2, true), 0, 0, NONE);
        Check.due("land", Check.land(x, "cross;".repeat(7) + "inn 2;"), 1);
        for (boolean under : new boolean[] {false, true}) {
            Check.bounds("land", i -> x.lot(i, 0, 2, under), 0, 1, NONE);
            Check.bounds("crossing", c -> x.lot(0, c, 2, under), 0, 2, NONE);
            Check.bounds("crossing", c -> x.lot(1, c, 2, under), 0, 6, NONE);
            Check.bounds("inn", inn -> x.lot(1, 0, inn, under), 2, 2, NONE);
            for (int inn = 0; inn < 9; inn++) {
                Check.due("inn " + inn, x.lot(0, 0, inn, under), inn == 2 ? 1 : NONE);
            }
        }
    }

    private static void meanDue(String land, int c, int over, int under) {
        TurnedPosts x = Check.withLand(land);
        Check.due("mean N in " + land, x.mean(0, c, false), over);
        Check.due("mean D in " + land, x.mean(0, c, true), under);
    }

    private static void mean() {
        Check.sentence("MEAN: how many STEPS in the mean.");
        meanDue(LAND, 0, 7, 4);
        meanDue(LAND, 2, 0, 1);
        meanDue("cross 1 0 0 0;cross;inn 1;", 0, 5, 2);
        meanDue("cross 1 0 0;cross;inn 1;", 0, 2, 1);
        meanDue("cross 1;cross;inn 1;", 0, 1, 1);
        meanDue("cross 1 0 0 0;cross 2 1 1 1;cross 3 2 2 2;cross 4 3 3 3;cross 5 4 4 4;cross 6 5 5 5;cross;inn 6;", 0, 15, 1);
    }

    private static void meanNever() {
        Check.sentence("NONE: one NEVER comes by some way");
        meanDue("cross 1 2;cross;cross;inn 1;", 0, NONE, NONE);
        meanDue("cross 1 2;cross;cross;inn 1;inn 2;", 0, 1, 1);
        meanDue("cross;", 0, NONE, NONE);
        meanDue("cross 0;", 0, NONE, NONE);
        meanDue("cross 1 1 1 2;cross;cross 2;inn 1;", 0, NONE, NONE);
        meanDue("cross 1 1 1 2;cross;cross 2;inn 1;", 1, 0, 1);
        // by 499 STEPS at the most; and one STEP more
        meanDue(NEARER, 0, 583, 2);
        meanDue(NEARER + "cross 0;", 0, 583, 2);
        meanDue(NEARER + "cross 0;", 6, NONE, NONE);
    }

    private static void meanRefused() {
        Check.sentence("MEAN, N, or (under) D. NONE: one NEVER comes by some way, or there is none such (of either).");
        TurnedPosts x = new TurnedPosts();
        Check.due("no land", x.mean(0, 0, false), NONE);
        Check.due("land", Check.land(x, LAND), 0);
        Check.bounds("land", i -> x.mean(i, 0, true), 0, 0, NONE);
        Check.due("land", Check.land(x, "cross 2;cross 2;cross;cross 2;cross 2;cross 2;cross 2;inn 2;"), 1);
        for (boolean under : new boolean[] {false, true}) {
            Check.bounds("land", i -> x.mean(i, 0, under), 0, 1, NONE);
            Check.bounds("crossing", c -> x.mean(0, c, under), 0, 2, NONE);
            Check.bounds("crossing", c -> x.mean(1, c, under), 0, 6, NONE);
        }
    }

    // ---- TREES ----

    private static void treesDue(String land, int trees) {
        Check.due("trees in " + land, Check.withLand(land).trees(0), trees);
    }

    private static void trees() {
        Check.sentence("TREES: in how many of all ways to set POSTS (of CROSSINGS that are no INNS and have ROADS) one comes from each "
            + "of these to an INN by going the way they point, nothing turning.");
        treesDue(LAND, 3);
        treesDue("cross 1;cross;inn 1;", 1);
        treesDue("cross 1 1 1;cross;inn 1;", 3);
        treesDue("cross 0 1;cross;inn 1;", 1);
        treesDue("cross 0;cross;inn 1;", 0);
        treesDue("cross 1;cross 0;cross;inn 2;", 0);
        treesDue("cross 1 2;cross;cross;inn 1;", 1);
        treesDue("cross 1;cross;", 0);
        // the whole way of six STEPS is gone
        treesDue("cross 1;cross 2;cross 3;cross 4;cross 5;cross 6;cross;inn 6;", 1);
        treesDue("cross 1;cross 2;cross 3;cross 4;cross 5;cross 6;cross;", 0);
        treesDue("cross 1;cross 2;cross 3;cross 4;cross 5;cross 0;cross;inn 6;", 0);
        treesDue("cross 6 6 6 6;cross 6 6 6 6;cross 6 6 6 6;cross 6 6 6 6;cross 6 6 6 6;cross 6 6 6 6;cross;inn 6;", 4096);
        treesDue("cross;cross 0 0 0 2;cross 0 1 1 1;inn 0;", 3 + 1 + 9);
        treesDue("cross 0 1 2;cross 1 2 3;cross 3 0;cross;inn 3;", 5);
        treesDue("cross 1 3;cross 0 3 2;cross 1 1 3 2;cross;inn 3;", 11);
        treesDue("cross 1 2;cross 3 0;cross 0 1 3;cross;inn 3;", 6);
        treesDue("cross 1 2 3 4;cross 0 2 3 4;cross 0 1 3 4;cross 0 1 2 4;cross;inn 4;", 125);
        // of each CROSSING, from the first to the last, all ROADS
        treesDue("cross;cross;cross;cross;cross;cross;cross 0 1 6 6;inn 0;", 1);
        treesDue("cross 1 6 0 0;cross;cross;cross;cross;cross;cross;inn 6;", 1);
    }

    private static void treesOfNone() {
        Check.sentence("(of CROSSINGS that are no INNS and have ROADS)");
        treesDue("", 1);
        treesDue("cross;", 1);
        treesDue("cross;inn 0;", 1);
        treesDue("cross 0 0;inn 0;", 1);
        treesDue("cross 1;cross 0 0 0;inn 1;", 1);
        treesDue("cross 1;cross;cross;inn 1;", 1);
    }

    private static void treesRefused() {
        Check.sentence("TREES. NONE: there is none such.");
        TurnedPosts x = new TurnedPosts();
        Check.due("no land", x.trees(0), NONE);
        Check.due("land", Check.land(x, LAND), 0);
        Check.bounds("land", x::trees, 0, 0, NONE);
        Check.due("land", Check.land(x, ""), 1);
        Check.bounds("land", x::trees, 0, 1, NONE);
        Check.dues("trees", x::trees, 0, 3, 1);
    }

    // ---- GAME ----

    private static void gameDue(String land, int c, int[] steps, int[] first) {
        TurnedPosts x = Check.withLand(land);
        Check.dues("game in " + land, n -> x.game(0, c, n, false), 0, steps);
        Check.dues("first in " + land, n -> x.game(0, c, n, true), 0, first);
    }

    private static void game() {
        Check.sentence("two by turns, the first one first, n times in all, turn one POST (as turn), or nothing; then a WALKER is put "
            + "there: how many STEPS, if the first one wants fewest, the second one most");
        gameDue(LAND, 0, new int[] {1, 1, 2, 1}, new int[] {NONE, 1, 7, 0});
        gameDue(LAND + "post 0 1;", 0, new int[] {2, 1, 2, 1}, new int[] {NONE, 0, 0, 0});
        gameDue(LAND, 2, new int[] {0, 0, 0, 0}, new int[] {NONE, 0, 0, 0});
        // of four, the fewest is next but one: it takes two turns of the first one
        gameDue("cross 2 1 2 2;cross;cross 1;inn 1;post 0 2;", 0, new int[] {2, 2, 2, 1}, new int[] {NONE, 0, 0, 0});
        // the next one is best, but the second one would turn it on: so the first one turns the other one first
        gameDue("cross 2 2 2 1;cross;cross 1;inn 1;post 0 1;", 0, new int[] {2, 1, 2, 1}, new int[] {NONE, 0, 0, 2});
    }

    private static void gameNever() {
        Check.sentence("(of one who NEVER comes 500)");
        gameDue("cross;", 0, new int[] {500, 500, 500, 500}, new int[] {NONE, 7, 7, 7});
        gameDue("cross 0;", 0, new int[] {500, 500, 500, 500}, new int[] {NONE, 0, 0, 0});
        gameDue("cross 2 1;cross;cross;inn 1;", 0, new int[] {1, 1, 500, 1}, new int[] {NONE, 7, 0, 0});
        TurnedPosts far = Check.withLand(FAR);
        Check.due("by 499 steps", far.game(0, 0, 0, false), 499);
        Check.due("by 500 steps", far.game(0, 6, 0, false), 500);
        TurnedPosts end = Check.withLand("cross 1;cross;");
        Check.due("one step to an end", end.game(0, 0, 0, false), 500);
    }

    private static void gameFirst() {
        Check.sentence("the POST that the first one turns first, the least that is best (7: nothing)");
        // the posts of inns and ends are never turned
        gameDue("cross;cross 0 0;inn 1;", 1, new int[] {0, 0, 0, 0}, new int[] {NONE, 7, 7, 7});
        gameDue("cross 0 0;cross;cross 2;inn 0;inn 1;", 0, new int[] {0, 0}, new int[] {NONE, 2});
        gameDue("cross;cross;cross;cross;cross;cross;cross 6;inn 0;", 0, new int[] {0, 0, 0, 0}, new int[] {NONE, 6, 6, 6});
        gameDue("cross;cross 1;cross;cross;cross;cross;cross 6;inn 0;", 0, new int[] {0, 0, 0, 0}, new int[] {NONE, 1, 1, 1});
        Check.sentence("(NONE: n is 0)");
        TurnedPosts x = Check.withLand(LAND);
        Check.due("n 0", x.game(0, 0, 0, true), NONE);
        Check.due("n 1", x.game(0, 0, 1, true), 1);
    }

    private static void gameRefused() {
        Check.sentence("GAME of a CROSSING, n: how many, or (first) what is turned first (NONE: n is 0). -9: another n, or there is "
            + "none such (of either).");
        for (boolean first : new boolean[] {false, true}) {
            TurnedPosts x = new TurnedPosts();
            Check.due("no land", x.game(0, 0, 1, first), -9);
            Check.due("land", Check.land(x, LAND), 0);
            Check.bounds("land", i -> x.game(i, 0, 1, first), 0, 0, -9);
            Check.due("land", Check.land(x, "cross;".repeat(7)), 1);
            Check.bounds("land", i -> x.game(i, 0, 1, first), 0, 1, -9);
            Check.bounds("crossing", c -> x.game(0, c, 0, first), 0, 2, -9);
            Check.bounds("crossing", c -> x.game(1, c, 3, first), 0, 6, -9);
            Check.bounds("n", n -> x.game(0, 0, n, first), 0, 3, -9);
        }
    }

    // ---- LONGEST, SHORTEST, BACK ----

    private static void longDue(String land, int c, int longest, int byWay, int shortest, int byOther) {
        TurnedPosts x = Check.withLand(land);
        Check.due("longest in " + land, x.longest(0, c, false, false), longest);
        Check.due("its way in " + land, x.longest(0, c, false, true), byWay);
        Check.due("shortest in " + land, x.longest(0, c, true, false), shortest);
        Check.due("its way in " + land, x.longest(0, c, true, true), byOther);
    }

    private static void longest() {
        Check.sentence("LONGEST, SHORTEST of a CROSSING: the most, the fewest STEPS of a WALK of one that comes to an INN, by any way to "
            + "set POSTS as LOT");
        longDue(LAND, 0, 3, 1110, 1, 1000);
        longDue(LAND, 2, 0, 1000, 0, 1000);
        longDue("cross;inn 0;", 0, 0, 10, 0, 10);
        longDue("cross 1;cross;inn 1;", 0, 1, 100, 1, 100);
        longDue(NEARER, 0, 499, 1323330, 5, 1212220);
        // that of 500 STEPS is none
        longDue(NEARER + "cross 0;", 6, 499, 10233300, 6, 12122200);
    }

    private static void longestFirstWay() {
        Check.sentence("the first such way, as a number");
        longDue("cross 1 1 1 1;cross;inn 1;", 0, 1, 100, 1, 100);
        longDue("cross 2 1 1 2;cross;cross 1;inn 1;", 0, 2, 1200, 1, 1000);
        longDue("cross 1;cross;cross 2 2 2 2;inn 1;", 0, 1, 1000, 1, 1000);
        // the posts of inns are 0, as in section 4
        longDue("cross 1;cross 0 0 0;inn 1;post 1 2;", 0, 1, 100, 1, 100);
        longDue("cross 6 6 6 0;cross;cross;cross;cross;cross;cross;inn 6;", 0, 2, 12000000, 1, 10000000);
        longDue("cross;cross;cross;cross;cross;cross;cross 6 6 6 0;inn 0;", 6, 4, 10000003, 1, 10000002);
    }

    private static void longestNone() {
        Check.sentence("(none comes: none)");
        longDue("cross 0;", 0, NONE, NONE, NONE, NONE);
        longDue("cross;cross;inn 1;", 0, NONE, NONE, NONE, NONE);
        longDue("cross 1 2;cross;cross;inn 1;", 2, NONE, NONE, NONE, NONE);
        longDue("cross 1 2;cross;cross;inn 1;", 0, 1, 1100, 1, 1100);
    }

    private static void longestRefused() {
        Check.sentence("LONGEST, or (shortest) SHORTEST, STEPS, or (which) the number. NONE: none, or there is none such (of either).");
        TurnedPosts x = new TurnedPosts();
        Check.due("no land", x.longest(0, 0, false, false), NONE);
        Check.due("land", Check.land(x, LAND), 0);
        Check.bounds("land", i -> x.longest(i, 0, true, true), 0, 0, NONE);
        Check.due("land", Check.land(x, "cross 2;cross 2;cross;cross 2;cross 2;cross 2;cross 2;inn 2;"), 1);
        for (int bits = 0; bits < 4; bits++) {
            boolean shortest = bits % 2 == 1;
            boolean which = bits > 1;
            Check.bounds("land", i -> x.longest(i, 0, shortest, which), 0, 1, NONE);
            Check.bounds("crossing", c -> x.longest(0, c, shortest, which), 0, 2, NONE);
            Check.bounds("crossing", c -> x.longest(1, c, shortest, which), 0, 6, NONE);
        }
    }

    private static void backDue(String land, int c, int back) {
        Check.due("back of " + c + " in " + land, Check.withLand(land).back(0, c), back);
    }

    private static void back() {
        Check.sentence("BACK of a CROSSING: by how many ways to set POSTS a WALK of it leaves the POSTS .. as told.");
        // 00 becomes 10, 01 11, 10 01, 11 10
        backDue(LAND, 0, 0);
        backDue(LAND + "post 0 1;", 0, 2);
        backDue(LAND + "post 1 1;", 0, 1);
        backDue(LAND + "post 0 1;post 1 1;", 0, 1);
        backDue(LAND, 2, 1);
        backDue("cross;", 0, 1);
        backDue("cross 0;", 0, 1);
        backDue("cross 1 1 1 1;cross;post 0 3;", 0, 1);
        backDue("cross 1 2;cross;cross;post 0 1;", 0, 1);
        // one who has gone 499 STEPS leaves them, too
        backDue("cross 0 0;post 0 1;", 0, 1);
        backDue("cross 1 2;cross 0;cross 2;", 0, 0);
        backDue("cross 1 2;cross 0;cross 2;post 0 1;", 0, 2);
    }

    private static void backOfNoInns() {
        Check.sentence("(of CROSSINGS that are no INNS and have ROADS)");
        backDue("cross 0 0 0;inn 0;post 0 2;", 0, 1);
        backDue("cross 1;cross 0 0 0;inn 1;post 1 2;", 0, 1);
        backDue("cross 1;cross 0 0 0;post 1 2;", 0, 1);
        backDue("cross;cross 0 0;inn 0;", 1, 1);
        backDue("cross 6 6 6 6;cross;cross;cross;cross;cross;cross 0 0;inn 6;post 0 3;post 6 1;", 0, 1);
    }

    private static void backRefused() {
        Check.sentence("BACK. NONE: there is none such (of either).");
        TurnedPosts x = new TurnedPosts();
        Check.due("no land", x.back(0, 0), NONE);
        Check.due("land", Check.land(x, LAND), 0);
        Check.bounds("land", i -> x.back(i, 0), 0, 0, NONE);
        Check.due("land", Check.land(x, "cross;".repeat(7)), 1);
        Check.bounds("land", i -> x.back(i, 0), 0, 1, NONE);
        Check.bounds("crossing", c -> x.back(0, c), 0, 2, NONE);
        Check.bounds("crossing", c -> x.back(1, c), 0, 6, NONE);
    }

    /** Seven CROSSINGS of four ROADS each: 16384 ways. The numbers are those of Slow. */
    private static void allWaysThereMayBe() {
        Check.sentence("CROSSINGS, at most 7 .. ROADS of each, at most 4");
        String land = "cross 0 1 2 3;cross 4 5 6 0;cross 1 2 3 4;cross 5 6 0 1;cross 2 3 4 5;cross 6 6 5 3;cross 0 4 0 2;"
            + "post 0 3;post 1 1;post 3 2;post 4 3;post 5 1;post 6 2;";
        TurnedPosts x = Check.withLog(land, "never 3;");
        Check.due("second", Check.log(x, "never 6;never 2;"), 1);
        Check.dues("back", c -> x.back(0, c), 0, 2, 2, 2, 1, 1, 1, 1, NONE);
        Check.dues("ask", log -> x.fits(0, log, 1), 0, 6, 1);
        Check.dues("all fit", log -> x.fits(0, log, 0), 0, 16384, 16384);
        Check.dues("all by 499 steps", log -> x.least(0, log, false), 0, 499, 998);
        Check.dues("never", c -> x.game(0, c, 3, false), 0, 500, 500, 500, 500, 500, 500, 500);
        Check.due("the last of all", x.fits(0, 1, 10 + 16383), 13333333);
    }

    /** What was worked out for one LAND is not answered for the other, or for one told in its place. */
    private static void tablesOfTwoLands() {
        Check.sentence("LANDS, at most 2");
        TurnedPosts x = Check.withLand("cross 1 1 1 2;cross;cross;inn 1;inn 2;");
        Check.due("lot", x.lot(0, 0, 1, false), 3);
        Check.due("land", Check.land(x, "cross 1 2 2 2;cross 1 1 1;cross;inn 1;inn 2;"), 1);
        Check.dues("lot", i -> x.lot(i, 0, 1, false), 0, 3, 1);
        Check.dues("lot", i -> x.lot(i, 0, 2, false), 0, 1, 3);
        Check.due("image", x.image(0), true);
        Check.due("in place", Check.text(x, 0, 0, "cross 1 2;cross;cross;inn 1;inn 2;"), 0);
        Check.dues("lot", i -> x.lot(i, 0, 1, true), 0, 2, 4);
        Check.due("in place", Check.text(x, 0, 1, "cross 1 2 1;cross;cross;inn 1;inn 2;"), 1);
        Check.dues("lot", i -> x.lot(i, 0, 1, true), 0, 2, 3);
        Check.due("in no place", Check.text(x, 0, 2, "cross;cross;inn 1;"), -2);
        Check.due("a fault", Check.text(x, 0, 1, "cross;cross;inn 1"), NONE);
        Check.dues("lot", i -> x.lot(i, 0, 1, true), 0, 2, 3);
        Check.due("again", x.again(0), true);
        Check.dues("lot", i -> x.lot(i, 0, 1, false), 0, 3, 1);
    }
}
