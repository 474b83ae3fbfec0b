/** Promises 20, 32, 33: how the posts stood by who came where. */
public final class LogsTest {
    private static final int NONE = TurnedPosts.NONE;
    private static final String LAND = "cross 1 2;cross 0 3;cross;cross;inn 2;inn 3;post 0 1;";

    public static void main(String[] args) {
        fits();
        fitsBehindEachOther();
        never();
        notThere();
        noFacts();
        ask();
        odds();
        least();
        wrongInputs();
        Check.done("LogsTest");
    }

    private static void fitDue(String land, String log, int... numbers) {
        TurnedPosts x = Check.withLog(land, log);
        Check.due("how many fit " + log, x.fits(0, 0, 0), numbers.length);
        for (int k = 0; k < numbers.length; k++) {
            Check.due("way " + k + " of " + log, x.fits(0, 0, 10 + k), numbers[k]);
        }
        Check.due("no more of " + log, x.fits(0, 0, 10 + numbers.length), -2);
    }

    private static void fits() {
        // by 0? he goes to 2 at once; by 1? to 1, and from there by 0 on, or by 1 back and to 2
        fitDue(LAND, "came 0 2;", 10000, 10100, 11100);
        fitDue(LAND, "came 0 3;", 11000);
        fitDue(LAND, "came 0 1;");
        fitDue(LAND, "came 2 2;", 10000, 10100, 11000, 11100);
        fitDue(LAND, "came 2 3;");
        fitDue(LAND, "never 2;");
        fitDue(LAND, "never 0;");
        TurnedPosts x = Check.withLog(LAND, "came 0 2;");
        int[] sure = {NONE, NONE, 0, 0, NONE, NONE, NONE};
        for (int c = 0; c < 7; c++) {
            Check.due("sure " + c, x.fits(0, 0, 2 + c), sure[c]);
        }
        x = Check.withLog(LAND, "came 0 3;");
        int[] surely = {1, 0, 0, 0, NONE, NONE, NONE};
        for (int c = 0; c < 7; c++) {
            Check.due("surely " + c, x.fits(0, 0, 2 + c), surely[c]);
        }
        // the posts of inns are 0, however told
        fitDue("cross 1 1;cross 0 0;inn 1;post 1 1;", "came 0 1;", 100, 110);
        Check.due("inn's post", Check.withLog("cross 1 1;cross 0 0;inn 1;post 1 1;", "").fits(0, 0, 3), 0);
    }

    private static void fitsBehindEachOther() {
        // two from 0: the first turns what the second finds
        fitDue(LAND, "came 0 2;came 0 2;", 10100);
        fitDue(LAND, "came 0 2;came 0 3;", 10000, 11100);
        fitDue(LAND, "came 0 3;came 0 2;", 11000);
        fitDue(LAND, "came 0 3;came 0 3;");
        fitDue("cross 1 2;cross;cross;inn 1;inn 2;", "came 0 1;came 0 2;came 0 1;came 0 2;came 0 1;came 0 2;came 0 1;came 0 2;", 1100);
        fitDue("cross 1 2;cross;cross;inn 1;inn 2;", "came 0 1;came 0 2;came 0 1;came 0 2;came 0 1;came 0 2;came 0 1;came 0 1;");
    }

    private static void never() {
        // by 499 steps, and by one who can't go on; the posts stay turned behind him
        fitDue("cross 1 2;cross 1;cross;inn 2;", "never 0;came 0 2;", 1100);
        fitDue("cross 1 2;cross;cross;inn 2;", "never 0;came 0 2;never 0;", 1100);
        fitDue("cross 0 0;", "never 0;", 10, 11);
        fitDue("cross 0 0;cross;cross 1 0;inn 1;", "never 0;came 2 1;", 1001, 1101);
        // a crossing that is no inn, though one stands there in the end, is none to come to
        fitDue("cross 1;cross;", "came 0 1;");
        fitDue("cross 1;cross;", "never 0;", 100);
    }

    private static void notThere() {
        fitDue(LAND, "never 4;");
        fitDue(LAND, "came 4 2;");
        fitDue(LAND, "came 0 6;");
        fitDue(LAND, "came 0 2;never 6;");
        fitDue("", "never 0;");
        TurnedPosts x = Check.withLog(LAND, "never 4;");
        for (int what = 1; what < 9; what++) {
            Check.due("nothing fits " + what, x.fits(0, 0, what), NONE);
        }
        Check.due("odds", x.odds(0, 0, 0, 0, true), NONE);
        Check.due("least", x.least(0, 0, false), NONE);
        Check.due("most", x.least(0, 0, true), NONE);
    }

    private static void noFacts() {
        fitDue("", "", 1);
        fitDue(LAND, "", 10000, 10100, 11000, 11100);
        Check.due("least", Check.withLog(LAND, "").least(0, 0, false), 0);
        Check.due("most", Check.withLog(LAND, "").least(0, 0, true), 0);
        Check.due("ask of none", Check.withLog("", "").fits(0, 0, 1), NONE);
        Check.due("ask of inns", Check.withLog("cross;inn 0;", "").fits(0, 0, 1), NONE);
        Check.due("ask of an end", Check.withLog("cross;inn 0;cross;", "").fits(0, 0, 1), 1);
        Check.due("all fit", Check.withLog("cross 0 0 0 0;cross 0 0 0 0;cross 0 0 0 0;cross 0 0 0 0;cross 0 0 0 0;"
            + "cross 0 0 0 0;cross 0 0 0 0;", "never 6;").fits(0, 0, 10 + 16383), 13333333);
    }

    private static void ask() {
        // of 0 three of four come to 2; of 1 three of four to 3
        Check.due("ask", Check.withLog(LAND, "").fits(0, 0, 1), 0);
        // 0 tells nothing, 1 tells its post, 2 as well
        Check.due("ask 1", Check.withLog("cross 3;cross 3 4;cross 4 3;cross;cross;inn 3;inn 4;", "").fits(0, 0, 1), 1);
        // behind a fact that tells 1 already, 2 is to be asked
        Check.due("ask 2", Check.withLog("cross 3;cross 3 4;cross 4 3;cross;cross;inn 3;inn 4;", "came 1 4;").fits(0, 0, 1), 2);
        // places that are no inns count, too
        Check.due("ask of ends", Check.withLog("cross 2 3;cross 2 3 4;cross;cross;cross;", "").fits(0, 0, 1), 1);
    }

    private static void oddsDue(TurnedPosts x, int c, int r, int over, int under) {
        Check.due("odds N " + c + " " + r, x.odds(0, 0, c, r, false), over);
        Check.due("odds D " + c + " " + r, x.odds(0, 0, c, r, true), under);
    }

    private static void odds() {
        TurnedPosts x = Check.withLog(LAND, "came 0 2;");
        oddsDue(x, 0, 0, 2, 3);
        oddsDue(x, 0, 1, 1, 3);
        oddsDue(x, 1, 0, 1, 3);
        oddsDue(x, 1, 1, 2, 3);
        oddsDue(x, 0, 2, NONE, NONE);
        oddsDue(x, 0, -1, NONE, NONE);
        oddsDue(x, 2, 0, NONE, NONE);
        oddsDue(x, 4, 0, NONE, NONE);
        x = Check.withLog(LAND, "came 0 3;");
        oddsDue(x, 0, 0, 0, 1);
        oddsDue(x, 0, 1, 1, 1);
        // inns have no roads here
        x = Check.withLog("cross 1 1;cross 0 0;inn 1;", "");
        oddsDue(x, 0, 1, 1, 2);
        oddsDue(x, 1, 0, NONE, NONE);
    }

    private static void least() {
        TurnedPosts x = Check.withLog(LAND, "came 0 2;");
        Check.due("least", x.least(0, 0, false), 1);
        Check.due("most", x.least(0, 0, true), 3);
        x = Check.withLog(LAND, "came 0 2;came 0 3;");
        Check.due("least", x.least(0, 0, false), 3);
        Check.due("most", x.least(0, 0, true), 5);
        x = Check.withLog("cross 0;cross 2;cross;", "never 0;never 1;never 2;");
        Check.due("never", x.least(0, 0, false), 500);
        Check.due("never", x.least(0, 0, true), 500);
    }

    private static void wrongInputs() {
        TurnedPosts x = Check.withLog(LAND, "came 0 2;");
        for (int i : new int[] {-1, 1, 2, Integer.MAX_VALUE, Integer.MIN_VALUE}) {
            Check.due("fits " + i, x.fits(0, i, 0) + x.fits(i, 0, 0), -4);
            Check.due("odds " + i, x.odds(0, i, 0, 0, true) + x.odds(i, 0, 0, 0, false), -2);
            Check.due("least " + i, x.least(0, i, true) + x.least(i, 0, false), -2);
        }
        for (int what : new int[] {-1, 9, 13, 14, 100, Integer.MAX_VALUE, Integer.MIN_VALUE}) {
            Check.due("fits what " + what, x.fits(0, 0, what), -2);
        }
        // the other land, the other log, and one in place of one
        Check.due("second land", Check.land(x, "cross 1;cross;inn 1;"), 1);
        Check.due("second log", Check.log(x, "came 0 1;"), 1);
        int[][] due = {{3, 0}, {0, 1}};
        for (int i = 0; i < 2; i++) {
            for (int j = 0; j < 2; j++) {
                Check.due("fits " + i + j, x.fits(i, j, 0), due[i][j]);
            }
        }
        Check.due("in place", Check.text(x, 2, 1, "came 0 3;"), 1);
        Check.due("fits then", x.fits(0, 1, 0), 1);
        Check.due("in place", Check.text(x, 0, 0, ""), 0);
        Check.due("fits then", x.fits(0, 1, 0), 0);
    }
}
