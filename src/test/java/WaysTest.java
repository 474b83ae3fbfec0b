/** Promises 14 to 18, 28, 29: all ways to set the posts. */
public final class WaysTest {
    private static final int NONE = TurnedPosts.NONE;
    private static final String LAND = "cross 1 2;cross 0 2;cross;inn 2;";

    public static void main(String[] args) {
        set();
        setOfSeveral();
        lot();
        mean();
        trees();
        game();
        gameEdges();
        longest();
        back();
        changedTexts();
        wrongInputs();
        Check.done("WaysTest");
    }

    private static void setDue(TurnedPosts x, int c, int inn, int many, int which, int... row) {
        Check.due("set " + c + " " + inn, x.set(0, c, inn, 0), many);
        Check.due("which " + c + " " + inn, x.set(0, c, inn, 1), which);
        for (int i = 0; i < row.length; i++) {
            Check.due("row " + c + " " + inn + " " + i, x.set(0, c, inn, 10 + i), row[i]);
        }
        Check.due("no such post", x.set(0, c, inn, 10 + row.length), NONE);
    }

    private static void set() {
        TurnedPosts x = Check.withLand("cross 1 2 3;cross;cross;cross;inn 1;inn 2;inn 3;");
        setDue(x, 0, 2, 0, 0, 0, 0, 0, 0);
        setDue(x, 0, 3, 1, 1, 1, 0, 0, 0);
        setDue(x, 0, 1, 1, 1, 2, 0, 0, 0);
        setDue(x, 1, 1, 0, 0, 0, 0, 0, 0);
        setDue(x, 1, 2, NONE, NONE);
        x = Check.withLand("cross 1;cross;cross;inn 2;post 0 0;");
        setDue(x, 0, 2, NONE, NONE);
        // the posts of inns are as told in the row
        x = Check.withLand("cross 1 2;cross 0 0 0;cross 0 0;inn 1;inn 2;post 1 2;post 2 1;");
        setDue(x, 0, 1, 1, 1, 1, 2, 1);
    }

    private static void setOfSeveral() {
        // 0 leads to 1 and 2 by turns, each of these to a wrong inn first: one post of three is enough
        TurnedPosts x = Check.withLand("cross 1 2;cross 3 4;cross 3 4;cross;cross;inn 3;inn 4;post 1 1;post 2 1;");
        Check.due("comes to 3", x.walk(0, 0, 1), 3);
        setDue(x, 0, 4, 1, 4, 0, 1, 0, 0, 0);
        // either of two posts alone: the least bits; of these the least row
        x = Check.withLand("cross 1 1 2;cross 3 4;cross 4;cross;cross;inn 3;inn 4;post 1 1;");
        Check.due("comes to 3", x.walk(0, 0, 1), 3);
        setDue(x, 0, 4, 1, 1, 1, 1, 0, 0, 0);
        // two posts
        x = Check.withLand("cross 1 2 1;cross 0 3;cross 0 0 3;cross;inn 3;cross 4;cross 2 2 2 5;inn 5;");
        setDue(x, 0, 3, 0, 0, 0, 0, 0, 0, 0, 0);
    }

    private static void lotDue(TurnedPosts x, int c, int inn, int over, int under) {
        Check.due("lot N " + c + " " + inn, x.lot(0, c, inn, false), over);
        Check.due("lot D " + c + " " + inn, x.lot(0, c, inn, true), under);
    }

    private static void lot() {
        TurnedPosts x = Check.withLand("cross 1 2 3 1;cross;cross;cross;inn 1;inn 2;inn 3;inn 3;");
        lotDue(x, 0, 1, 1, 2);
        lotDue(x, 0, 2, 1, 4);
        lotDue(x, 0, 3, 1, 4);
        lotDue(x, 3, 3, 1, 1);
        lotDue(x, 3, 1, 0, 1);
        lotDue(x, 0, 0, NONE, NONE);
        x = Check.withLand("cross 1 3;cross 2 3 3;cross;cross;inn 2;");
        lotDue(x, 0, 2, 1, 6);
        lotDue(x, 1, 2, 1, 3);
        lotDue(x, 3, 2, 0, 1);
        // an inn's posts are none of the ways
        x = Check.withLand("cross 1 0 0;cross 0 0 0 0;inn 1;");
        lotDue(x, 0, 1, 1, 1);
    }

    private static void mean() {
        // 00: 1, 01: 1, 10: 2, 11: 3
        TurnedPosts x = Check.withLand(LAND);
        Check.due("mean N", x.mean(0, 0, false), 7);
        Check.due("mean D", x.mean(0, 0, true), 4);
        Check.due("mean N of the inn", x.mean(0, 2, false), 0);
        Check.due("mean D of the inn", x.mean(0, 2, true), 1);
        x = Check.withLand("cross 1 0 0;cross;inn 1;");
        Check.due("mean N", x.mean(0, 0, false), 2);
        Check.due("mean D", x.mean(0, 0, true), 1);
        // one can't go on by one way, by the other he comes
        x = Check.withLand("cross 1 2;cross;cross;inn 1;");
        Check.due("never", x.mean(0, 0, false), NONE);
        Check.due("never", x.mean(0, 0, true), NONE);
        Check.due("never", x.mean(0, 2, false), NONE);
    }

    private static void trees() {
        Check.due("trees", Check.withLand(LAND).trees(0), 3);
        Check.due("empty", Check.withLand("").trees(0), 1);
        Check.due("inns alone", Check.withLand("cross 0 0;inn 0;").trees(0), 1);
        Check.due("an end alone", Check.withLand("cross;").trees(0), 1);
        Check.due("an end", Check.withLand("cross 1 2 2;cross;cross;inn 2;").trees(0), 2);
        Check.due("no inn", Check.withLand("cross 1;cross;").trees(0), 0);
        Check.due("a loop", Check.withLand("cross 0 1;cross;inn 1;").trees(0), 1);
        Check.due("inns' roads", Check.withLand("cross 1;cross 0 0 0;inn 1;").trees(0), 1);
        String k = "cross 1 2 3 4;cross 0 2 3 4;cross 0 1 3 4;cross 0 1 2 4;cross;inn 4;";
        Check.due("all with all", Check.withLand(k).trees(0), 125);
        TurnedPosts x = Check.withLand(LAND);
        Check.due("lot, then trees, then lot", x.lot(0, 0, 2, true) + 10 * x.trees(0) + 100 * x.lot(0, 0, 2, true), 131);
    }

    private static void gameDue(TurnedPosts x, int c, int n, int steps, int first) {
        Check.due("game " + c + " " + n, x.game(0, c, n, false), steps);
        Check.due("game first " + c + " " + n, x.game(0, c, n, true), first);
    }

    private static void game() {
        TurnedPosts x = Check.withLand(LAND);
        gameDue(x, 0, 0, 1, NONE);
        // turning 0: two steps; 1, or nothing: one
        gameDue(x, 0, 1, 1, 1);
        // behind 0, 1 the other makes three of it, behind nothing two
        gameDue(x, 0, 2, 2, 7);
        gameDue(x, 1, 0, 1, NONE);
        gameDue(x, 2, 3, 0, 0);
    }

    private static void gameEdges() {
        // a post with one road turns to the same one; an inn's, an end's not
        TurnedPosts x = Check.withLand("cross 0;cross;cross 2;inn 0;");
        gameDue(x, 2, 1, 500, 2);
        gameDue(x, 1, 3, 500, 2);
        gameDue(x, 0, 2, 0, 2);
        x = Check.withLand("cross;cross;inn 0;");
        gameDue(x, 0, 1, 0, 7);
        gameDue(x, 1, 3, 500, 7);
        gameDue(x, 1, 0, 500, NONE);
        x = Check.withLand("cross 1 2;cross;cross;inn 1;");
        gameDue(x, 0, 0, 500, NONE);
        gameDue(x, 0, 1, 1, 0);
        gameDue(x, 0, 2, 500, 0);
        gameDue(x, 0, 3, 1, 0);
    }

    private static void longDue(TurnedPosts x, int c, int longest, int way, int shortest, int byWay) {
        Check.due("longest " + c, x.longest(0, c, false, false), longest);
        Check.due("longest way " + c, x.longest(0, c, false, true), way);
        Check.due("shortest " + c, x.longest(0, c, true, false), shortest);
        Check.due("shortest way " + c, x.longest(0, c, true, true), byWay);
    }

    private static void longest() {
        TurnedPosts x = Check.withLand(LAND + "post 0 1;");
        longDue(x, 0, 3, 1110, 1, 1000);
        longDue(x, 1, 3, 1110, 1, 1000);
        longDue(x, 2, 0, 1000, 0, 1000);
        x = Check.withLand("cross 1 2 3;cross;cross 3;cross 0 0;inn 3;post 3 1;");
        longDue(x, 0, 2, 10000, 1, 11000);
        longDue(x, 1, NONE, NONE, NONE, NONE);
        // too far by some ways: those do not count
        x = Check.withLand("cross 0 0 0 1;cross 0 0 0 2;cross 0 0 0 3;cross 0 0 0 4;cross 0 0 0 5;cross;inn 5;");
        Check.due("no more than 499", x.longest(0, 0, false, false) <= 499, true);
        Check.due("shortest of far", x.longest(0, 0, true, false), 5);
        Check.due("shortest of far", x.longest(0, 0, true, true), 1222220);
    }

    private static void back() {
        // ends: 00 to 10, 01 to 11, 10 to 01, 11 to 10
        Check.due("back to 00", Check.withLand(LAND).back(0, 0), 0);
        Check.due("back to 10", Check.withLand(LAND + "post 0 1;").back(0, 0), 2);
        Check.due("back to 01", Check.withLand(LAND + "post 1 1;").back(0, 0), 1);
        Check.due("back of the inn", Check.withLand(LAND + "post 1 1;").back(0, 2), 1);
        // of an end, of one who never comes, of inns with posts
        Check.due("back of an end", Check.withLand("cross;cross 0 1;post 1 1;").back(0, 0), 1);
        Check.due("back of a loop", Check.withLand("cross 0 0;").back(0, 0), 1);
        Check.due("an inn's post is as told", Check.withLand("cross 0 0;cross 0;inn 0;post 0 1;").back(0, 1), 1);
        Check.due("all ways", Check.withLand("cross;cross 0 0;inn 0;").back(0, 1), 1);
    }

    private static void changedTexts() {
        TurnedPosts x = Check.withLand(LAND);
        Check.due("second", Check.land(x, "cross 1 0 0 0;cross;inn 1;"), 1);
        Check.due("mean of one", x.mean(0, 0, false), 7);
        Check.due("mean of the other", x.mean(1, 0, false), 5);
        Check.due("mean of one", x.mean(0, 0, true), 4);
        Check.due("mean of the other", x.mean(1, 0, true), 2);
        Check.due("in place", Check.text(x, 0, 0, "cross 1;cross;inn 1;"), 0);
        Check.due("mean then", x.mean(0, 0, false), 1);
        Check.due("mean of the other", x.mean(1, 0, false), 5);
        Check.due("a fault", Check.text(x, 0, 1, "cross 7;"), NONE);
        Check.due("mean of the other", x.mean(1, 0, false), 5);
        Check.due("image", x.image(0), true);
        Check.due("in place", Check.text(x, 0, 1, "cross;"), 1);
        Check.due("mean then", x.mean(1, 0, false), NONE);
        Check.due("again", x.again(0), true);
        Check.due("mean again", x.mean(1, 0, false), 5);
    }

    private static void wrongInputs() {
        TurnedPosts x = Check.withLand(LAND);
        for (int i : new int[] {-1, 3, 7, Integer.MAX_VALUE, Integer.MIN_VALUE}) {
            Check.due("set " + i, x.set(0, i, 2, 0) + x.set(i, 0, 2, 0) + x.set(0, 0, i, 0), -3);
            Check.due("lot " + i, x.lot(0, i, 2, true) + x.lot(i, 0, 2, true) + x.lot(0, 0, i, false), -3);
            Check.due("mean " + i, x.mean(0, i, false) + x.mean(i, 0, true), -2);
            Check.due("trees " + i, x.trees(i), NONE);
            Check.due("game " + i, x.game(0, i, 1, false) + x.game(i, 0, 1, true), -18);
            Check.due("longest " + i, x.longest(0, i, false, true) + x.longest(i, 0, true, false), -2);
            Check.due("back " + i, x.back(0, i) + x.back(i, 0), -2);
        }
        for (int what : new int[] {-1, 2, 9, 13, 17, 20, Integer.MAX_VALUE, Integer.MIN_VALUE}) {
            Check.due("set what " + what, x.set(0, 0, 2, what), NONE);
        }
        Check.due("set to no inn", x.set(0, 0, 1, 0), NONE);
        Check.due("game n", x.game(0, 0, 4, false) + x.game(0, 0, -1, true), -18);
    }
}
