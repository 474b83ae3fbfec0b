/** Promises 10 to 13, 26, 27, 30: walks, and who comes one behind the other. */
public final class WalksTest {
    private static final int NONE = TurnedPosts.NONE;
    private static final String LAND = "cross 1 2;cross 0 2;cross;inn 2;";

    public static void main(String[] args) {
        walk();
        walksThatNeverEnd();
        endOf();
        come();
        period();
        longPeriods();
        cover();
        round();
        share();
        keys();
        wrongInputs();
        Check.done("WalksTest");
    }

    private static void walk() {
        TurnedPosts x = Check.withLand(LAND + "post 0 1;post 1 1;");
        // by 0 to 1, by 0 to 0, by 1 to 2
        int[] due = {3, 2, 1};
        for (int what = 0; what < 3; what++) {
            Check.due("walk " + what, x.walk(0, 0, what), due[what]);
        }
        Check.due("visits 0", x.walk(0, 0, 10), 2);
        Check.due("visits 1", x.walk(0, 0, 11), 1);
        Check.due("visits 2", x.walk(0, 0, 12), 1);
        Check.due("visits 3", x.walk(0, 0, 13), -2);
        Check.due("from the inn", x.walk(0, 2, 0), 0);
        Check.due("from the inn", x.walk(0, 2, 1), 2);
        Check.due("from the inn", x.walk(0, 2, 2), 1);
        Check.due("from the inn", x.walk(0, 2, 12), 1);
        Check.due("from the inn", x.walk(0, 2, 10), 0);
        Check.due("the posts are as told", x.walk(0, 0, 0), 3);
    }

    private static void walksThatNeverEnd() {
        TurnedPosts x = Check.withLand("cross 1;cross 0;cross;inn 2;cross 4;cross;");
        Check.due("steps", x.walk(0, 0, 0), 499);
        Check.due("where", x.walk(0, 0, 1), 1);
        Check.due("no inn", x.walk(0, 0, 2), 0);
        Check.due("visits", x.walk(0, 0, 10), 250);
        Check.due("visits", x.walk(0, 0, 11), 250);
        Check.due("can't go on", x.walk(0, 3, 0), 1);
        Check.due("can't go on", x.walk(0, 3, 1), 4);
        Check.due("can't go on", x.walk(0, 3, 2), 0);
        Check.due("can't go", x.walk(0, 4, 0), 0);
        // three roads back, one ahead, six times: too far for 499 steps
        x = Check.withLand("cross 0 0 0 1;cross 0 0 0 2;cross 0 0 0 3;cross 0 0 0 4;cross 0 0 0 5;cross 0 0 0 6;cross;inn 6;");
        Check.due("too far", x.walk(0, 0, 0), 499);
        Check.due("too far", x.walk(0, 0, 2), 0);
        Check.due("too far", x.lot(0, 0, 6, false) < x.lot(0, 0, 6, true), true);
    }

    private static void endOf() {
        TurnedPosts x = Check.withLand(LAND + "walkers 0 2;walkers 2 4;cross;walkers 3 3;walkers 1 1;");
        // of 0: by 1 to 2; by 0 to 1, by 1 to 2; of 1: by 0 to 0, by 1 to 2
        Check.due("steps", x.endOf(0, 0), 5);
        int[] at = {0, 0, 7, 3};
        int[] posts = {1, 0, 0, 0};
        for (int c = 0; c < 4; c++) {
            Check.due("at " + c, x.endOf(0, 10 + c), at[c]);
            Check.due("post " + c, x.endOf(0, 20 + c), posts[c]);
        }
        // one who ends at a higher crossing goes not again
        x = Check.withLand("cross 1;cross;walkers 0 2;walkers 1 1;");
        Check.due("steps", x.endOf(0, 0), 2);
        Check.due("at 1", x.endOf(0, 11), 3);
        x = Check.withLand("cross 0;walkers 0 9;");
        Check.due("all never", x.endOf(0, 0), 9 * 499);
    }

    private static void come() {
        TurnedPosts x = Check.withLand("cross 1 2;cross;cross 3;cross 2;inn 1;post 0 1;");
        for (int k = 1; k <= 99; k++) {
            Check.due("come " + k, x.come(0, 0, k), k % 2 == 1 ? 1 : 2);
        }
        Check.due("from the inn", x.come(0, 1, 5), 1);
        Check.due("come 0", x.come(0, 0, 0), NONE);
        Check.due("come 100", x.come(0, 0, 100), NONE);
        Check.due("come -1", x.come(0, 0, -1), NONE);
    }

    private static void period() {
        TurnedPosts x = Check.withLand(LAND);
        // posts 00, 10, 01, 11, 10
        Check.due("period", x.period(0, 0, false), 3);
        Check.due("ahead", x.period(0, 0, true), 1);
        Check.due("of the inn", x.period(0, 2, false), 1);
        Check.due("of the inn", x.period(0, 2, true), 0);
        x = Check.withLand("cross 1 2 1;cross;cross;inn 1;inn 2;");
        Check.due("period", x.period(0, 0, false), 3);
        Check.due("ahead", x.period(0, 0, true), 0);
    }

    private static void longPeriods() {
        // each behind the other turns the next post once in four: 4, 16, 64, 256, then 1024 is too long
        String row = "cross 6 6 6 1;cross 6 6 6 2;cross 6 6 6 3;cross 6 6 6 4;cross 6 6 6 5;cross 6 6 6 6;cross;inn 6;";
        TurnedPosts x = Check.withLand(row);
        Check.due("period of 5", x.period(0, 5, false), 4);
        Check.due("period of 2", x.period(0, 2, false), 256);
        Check.due("period of 1", x.period(0, 1, false), NONE);
        Check.due("ahead of 1", x.period(0, 1, true), NONE);
        // 999 = 3 * 333 is no product of small ones; 972 = 3 * 324 = 4 * 3^5 is below 999
        x = Check.withLand("cross 6 6 6 1;cross 6 6 2;cross 6 6 3;cross 6 6 4;cross 6 6 5;cross 6 6 6;cross;inn 6;");
        Check.due("period 972", x.period(0, 0, false), 972);
        Check.due("ahead", x.period(0, 0, true), 0);
        // as they were first behind the 999th, behind the 1000th, behind the 1001st (as behind the 39th)
        x = Check.withLand("cross 1 6 4;cross 6 2 4 0;cross 3 0 3;cross 6 4 4;cross 6 5 6 1;cross 6 6 6;cross;inn 6;"
            + "post 1 2;post 2 1;post 5 1;");
        Check.due("period 999", x.period(0, 0, false), 999);
        x = Check.withLand("cross 1 0 5;cross 6 6 6 2;cross 6 6 3 6;cross 6 6 4;cross 6 2 5 6;cross 4 6 3;cross;inn 6;"
            + "post 0 2;post 1 1;post 2 3;post 3 2;post 4 3;post 5 1;");
        Check.due("period 1000", x.period(0, 0, false), NONE);
        x = Check.withLand("cross 6 6 3;cross 6 6 6 2;cross 1 3 6;cross 6 0 4 6;cross 5 6 1 5;cross 6 6 6 6;cross;inn 6;"
            + "post 0 1;post 1 3;post 3 3;post 4 2;");
        Check.due("behind 1001", x.period(0, 0, false), NONE);
        Check.due("behind 1001", x.period(0, 0, true), NONE);
    }

    private static void cover() {
        TurnedPosts x = Check.withLand(LAND + "post 0 1;post 1 1;cross 3;cross;");
        Check.due("cover", x.cover(0, 0, 0), 3);
        Check.due("return", x.cover(0, 0, 1), 2);
        Check.due("unused", x.cover(0, 0, 2), 1);
        Check.due("round", x.cover(0, 0, 3), NONE);
        Check.due("cover of the inn", x.cover(0, 2, 0), 0);
        Check.due("return of the inn", x.cover(0, 2, 1), NONE);
        Check.due("unused of the inn", x.cover(0, 2, 2), 0);
        Check.due("cover of a loop", x.cover(0, 3, 0), 0);
        Check.due("return of a loop", x.cover(0, 3, 1), 1);
        Check.due("unused of a loop", x.cover(0, 3, 2), 0);
        Check.due("cover of an end", x.cover(0, 4, 0), 0);
        Check.due("round of an end", x.cover(0, 4, 3), NONE);
        x = Check.withLand(LAND);
        Check.due("never all", x.cover(0, 0, 0), NONE);
        Check.due("never back", x.cover(0, 0, 1), NONE);
        Check.due("unused", x.cover(0, 0, 2), 3);
        // an inn's roads are none: not of its reach, not unused
        x = Check.withLand("cross 1;cross 2 0;cross 2;inn 1;");
        Check.due("cover", x.cover(0, 0, 0), 1);
        Check.due("unused", x.cover(0, 0, 2), 0);
    }

    private static void round() {
        TurnedPosts x = Check.withLand("cross 1;cross 0;cross 3 3;cross 2;cross 5 4;cross;inn 5;");
        Check.due("round of 2", x.cover(0, 0, 3), 2);
        Check.due("round of 4", x.cover(0, 2, 3), 4);
        Check.due("comes", x.cover(0, 4, 3), NONE);
        // too far for 499 steps, but no round: he comes to the inn by some more
        x = Check.withLand("cross 0 0 0 1;cross 0 0 0 2;cross 0 0 0 3;cross 0 0 0 4;cross 0 0 0 5;cross;inn 5;");
        Check.due("too far", x.walk(0, 0, 0), 499);
        Check.due("no round", x.cover(0, 0, 3), NONE);
        x = Check.withLand("cross 4 3;cross 2 2 1 1;cross 3 3 1 5;cross 1 2 0;cross 5 5 3;cross 4 2 4 6;cross 6 0 5;");
        Check.due("round of 999", x.cover(0, 0, 3), 999);
        x = Check.withLand("cross 0 5 4 0;cross 2 3 6 0;cross 5;cross 2 4 6 1;cross 4 5 3 4;cross 0 4;cross 6 5 6 0;");
        Check.due("round of 1000", x.cover(0, 0, 3), NONE);
    }

    private static void share() {
        TurnedPosts x = Check.withLand("cross 1 2 3;cross;cross;cross 3;inn 1;inn 2;");
        // 2, never, 1, 2, never, 1 ...
        int[] byOne = {0, 0, 0, 1, 1, 1, 2};
        int[] byTwo = {0, 1, 1, 1, 2, 2, 2};
        for (int k = 0; k < 7; k++) {
            Check.due("share of 1, " + k, x.share(0, 0, k, 1), byOne[k]);
            Check.due("share of 2, " + k, x.share(0, 0, k, 2), byTwo[k]);
        }
        Check.due("share 99", x.share(0, 0, 99, 2), 33);
        Check.due("share 100", x.share(0, 0, 100, 2), NONE);
        Check.due("share -1", x.share(0, 0, -1, 2), NONE);
        Check.due("no inn", x.share(0, 0, 3, 3), NONE);
        Check.due("no inn", x.share(0, 0, 3, 4), NONE);
        Check.due("no inn", x.share(0, 0, 3, -1), NONE);
        Check.due("from the inn", x.share(0, 1, 9, 1), 9);
        Check.due("from the inn", x.share(0, 1, 9, 2), 0);
    }

    private static void keys() {
        TurnedPosts x = Check.withLand("cross 1;cross 2;cross;inn 2;cross 3;cross 5 0;cross;");
        Check.due("keys", x.keys(0, 0, false), 2);
        Check.due("first", x.keys(0, 0, true), 0);
        Check.due("keys of 1", x.keys(0, 1, false), 1);
        Check.due("first of 1", x.keys(0, 1, true), 10);
        Check.due("keys of the inn", x.keys(0, 2, false), 0);
        Check.due("first of the inn", x.keys(0, 2, true), NONE);
        Check.due("comes to none", x.keys(0, 3, false), -2);
        // the one road shut, he goes to the end that is no inn
        Check.due("keys of 4", x.keys(0, 4, false), 3);
        Check.due("first of 4", x.keys(0, 4, true), 0);
        Check.due("no other way needed", Check.withLand(LAND).keys(0, 0, false), 0);
        Check.due("no other way needed", Check.withLand(LAND).keys(0, 0, true), NONE);
    }

    private static void wrongInputs() {
        TurnedPosts x = Check.withLand(LAND);
        for (int i : new int[] {-1, 3, 7, Integer.MAX_VALUE, Integer.MIN_VALUE}) {
            Check.due("walk " + i, x.walk(0, i, 0) + x.walk(i, 0, 0), -4);
            Check.due("come " + i, x.come(0, i, 1) + x.come(i, 0, 1), -2);
            Check.due("period " + i, x.period(0, i, false) + x.period(i, 0, true), -2);
            Check.due("cover " + i, x.cover(0, i, 0) + x.cover(i, 0, 0), -4);
            Check.due("share " + i, x.share(0, i, 1, 2) + x.share(i, 0, 1, 2), -2);
            Check.due("keys " + i, x.keys(0, i, false) + x.keys(i, 0, true), -4);
            Check.due("endOf " + i, x.endOf(i, 0), -2);
        }
        for (int what : new int[] {-1, 3, 9, 13, 17, 20, 100, Integer.MAX_VALUE, Integer.MIN_VALUE}) {
            Check.due("walk what " + what, x.walk(0, 0, what), -2);
        }
        for (int what : new int[] {-1, 1, 9, 13, 17, 23, 27, 30, Integer.MAX_VALUE, Integer.MIN_VALUE}) {
            Check.due("endOf what " + what, x.endOf(0, what), -2);
        }
        Check.due("cover what", x.cover(0, 0, 4) + x.cover(0, 0, -1), -4);
    }
}
