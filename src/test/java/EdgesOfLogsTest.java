/** Terms 4 and 5, promises 20, 32, 33: each sentence that names a boundary, on both sides of it. */
public final class EdgesOfLogsTest {
    private static final int NONE = TurnedPosts.NONE;
    private static final String FAR = EdgesOfDaysTest.FAR;
    private static final String TWO = "cross 1 2;cross;cross;inn 1;inn 2;";
    private static final String FULL = "cross 0 0 0 0;".repeat(7);

    public static void main(String[] args) {
        ways();
        factsAreSo();
        behindTheOther();
        crossingNotThere();
        innNotThere();
        neverBy499();
        howMany();
        theKth();
        asANumber();
        sure();
        sureOfOthers();
        sureNone();
        ask();
        askOfSeveral();
        askNone();
        fitsRefused();
        odds();
        oddsInLeastTerms();
        oddsRefused();
        least();
        leastNone();
        leastRefused();
        fitOfTwo();
        Check.done("EdgesOfLogsTest");
    }

    private static void fitDue(String land, String log, int... numbers) {
        TurnedPosts x = Check.withLog(land, log);
        Check.due("how many fit " + log, x.fits(0, 0, 0), numbers.length);
        Check.dues("way of " + log, what -> x.fits(0, 0, what), 10, numbers);
        Check.due("no more of " + log, x.fits(0, 0, 10 + numbers.length), -2);
    }

    // ---- what FITS ----

    private static void ways() {
        Check.sentence("ways to set POSTS (of CROSSINGS that are no INNS and have ROADS; all others 0)");
        fitDue("", "", 1);
        fitDue("cross;", "", 10);
        fitDue("cross 0 0;", "", 10, 11);
        fitDue("cross 0 0;inn 0;", "", 10);
        fitDue("cross 0 0;inn 0;post 0 1;", "", 10);
        fitDue("cross 0 0 0;cross;cross 1 1;", "", 1000, 1001, 1100, 1101, 1200, 1201);
        fitDue("cross 0 0;post 0 1;", "", 10, 11);
    }

    private static void factsAreSo() {
        Check.sentence("FIT, if by them FACTS are so");
        fitDue(TWO, "", 1000, 1100);
        fitDue(TWO, "came 0 1;", 1100);
        fitDue(TWO, "came 0 2;", 1000);
        fitDue(TWO, "never 0;");
        fitDue(TWO, "came 0 0;");
        fitDue(TWO, "came 1 1;", 1000, 1100);
        fitDue(TWO, "came 1 2;");
        fitDue(TWO, "never 1;");
        fitDue("cross 1;cross;", "never 0;", 100);
        fitDue("cross 1;cross;", "came 0 1;");
    }

    private static void behindTheOther() {
        Check.sentence("one WALKER behind the other, the POSTS staying turned");
        fitDue(TWO, "came 0 1;came 0 2;", 1100);
        fitDue(TWO, "came 0 1;came 0 1;");
        fitDue(TWO, "came 0 2;came 0 1;", 1000);
        fitDue(TWO, "came 0 1;came 0 2;".repeat(4), 1100);
        fitDue(TWO, "came 0 1;came 0 2;".repeat(3) + "came 0 1;came 0 1;");
        fitDue("cross 1 2;cross 1;cross;inn 2;", "never 0;came 0 2;never 0;", 1100);
    }

    private static void crossingNotThere() {
        Check.sentence("(of a CROSSING that is not there: never)");
        fitDue(TWO, "never 3;");
        fitDue(TWO, "came 3 1;");
        fitDue(TWO, "came 0 1;never 6;");
        fitDue("cross;cross;cross 1 1;", "never 2;", 1000, 1001);
        fitDue("cross;cross;cross 1 1;", "never 3;");
        fitDue("", "never 0;");
        fitDue(FULL.substring(14) + "cross;", "never 6;never 5;came 6 6;");
    }

    private static void innNotThere() {
        Check.sentence("a WALKER was put at a CROSSING and came to an INN, or NEVER to any");
        fitDue(TWO, "came 0 6;");
        fitDue(TWO, "came 0 3;");
        fitDue("cross;inn 0;", "came 0 0;", 10);
        fitDue("cross;", "came 0 0;");
        fitDue("cross;", "never 0;", 10);
        fitDue("cross;inn 0;", "never 0;");
    }

    private static void neverBy499() {
        Check.sentence("if he is at no INN then, he NEVER comes to one");
        TurnedPosts came = Check.withLog(FAR, "came 0 5;");
        Check.due("by 499 steps", came.fits(0, 0, 10), 10000000);
        Check.due("never", Check.withLog(FAR, "never 0;").fits(0, 0, 10) == 10000000, false);
        TurnedPosts never = Check.withLog(FAR, "never 6;");
        Check.due("by 500 steps", never.fits(0, 0, 10), 10000000);
        Check.due("came", Check.withLog(FAR, "came 6 5;").fits(0, 0, 10) == 10000000, false);
        fitDue("cross 1 2;cross;cross;inn 2;", "never 0;", 1100);
        fitDue("cross 1 2;cross 0;cross 2;inn 1;", "never 0;", 1000);
    }

    private static void howMany() {
        Check.sentence("how many; the k-th");
        TurnedPosts x = Check.withLog(FULL, "never 0;".repeat(8));
        Check.due("all of them", x.fits(0, 0, 0), 16384);
        Check.due("first", x.fits(0, 0, 10), 10000000);
        Check.due("last", x.fits(0, 0, 10 + 16383), 13333333);
        Check.due("behind the last", x.fits(0, 0, 10 + 16384), -2);
        Check.due("none of them", Check.withLog(FULL, "came 0 0;").fits(0, 0, 0), 0);
        Check.due("first of none", Check.withLog(FULL, "came 0 0;").fits(0, 0, 10), -2);
        Check.due("one", Check.withLog(TWO, "came 0 1;").fits(0, 0, 0), 1);
    }

    private static void theKth() {
        Check.sentence("the k-th, rising");
        TurnedPosts x = Check.withLog(FULL, "");
        int number = 0;
        for (int k = 0; k < 16384; k += 41) {
            int then = x.fits(0, 0, 10 + k);
            Check.due("rises at " + k, then > number, true);
            number = then;
        }
        Check.dues("the first ones", what -> x.fits(0, 0, what), 9, -2, 10000000, 10000001, 10000002, 10000003, 10000010);
        Check.dues("the last ones", what -> x.fits(0, 0, what), 10 + 16382, 13333332, 13333333, -2);
    }

    private static void asANumber() {
        Check.sentence("as a number (a 1, then ROADS by CROSSINGS, as digits to the base of ten)");
        fitDue("", "", 1);
        fitDue("cross;", "", 10);
        fitDue("cross 1 1 1 2;cross;cross;inn 1;inn 2;", "came 0 2;", 1200);
        fitDue("cross;cross;cross;cross;cross;cross;cross 0 0 0 1;inn 1;", "came 6 1;", 10000002);
        fitDue("cross 0 0 0 1;cross;cross;cross;cross;cross;cross;inn 1;", "came 0 1;", 10000000, 11000000, 12000000, 13000000);
    }

    // ---- SURE, ASK ----

    private static void sure() {
        Check.sentence("SURE of a POST: the ROAD, if it points to it in all that FIT");
        TurnedPosts x = Check.withLog("cross 1 2;cross;cross;inn 1;inn 2;cross 1 1 1 2;cross 3 3;", "came 0 1;came 3 2;");
        Check.dues("sure", what -> x.fits(0, 0, what), 2, 1, 0, 0, 2, NONE, NONE, NONE);
        TurnedPosts one = Check.withLog("cross 1;cross;", "");
        Check.dues("the only road", what -> one.fits(0, 0, what), 2, 0, 0, NONE);
        TurnedPosts single = Check.withLog(TWO, "came 0 1;");
        Check.dues("one way alone", what -> single.fits(0, 0, what), 2, 1, 0, 0);
        TurnedPosts all = Check.withLog(FULL, "");
        Check.dues("not one", what -> all.fits(0, 0, what), 2, NONE, NONE, NONE, NONE, NONE, NONE, NONE, -2);
        // all but the last one that FITS, or all but the first, point to one
        TurnedPosts last = Check.withLog("cross 3 3;cross 2;cross;inn 2;cross 1 2;", "came 0 2;");
        Check.dues("some", what -> last.fits(0, 0, what), 2, NONE, 0, 0, NONE, NONE);
    }

    private static void sureOfOthers() {
        Check.sentence("all others 0");
        TurnedPosts x = Check.withLog("cross 1;cross 0 0 0;inn 1;post 1 2;cross;", "came 0 1;");
        Check.dues("sure", what -> x.fits(0, 0, what), 2, 0, 0, 0, NONE, NONE, NONE, NONE);
    }

    private static void sureNone() {
        Check.sentence("2 + c: SURE of a POST, c 0 .. 6 (NONE: not one, nothing FITS, or there is none such)");
        TurnedPosts x = Check.withLog(TWO, "never 0;");
        Check.dues("nothing fits", what -> x.fits(0, 0, what), 2, NONE, NONE, NONE, NONE, NONE, NONE, NONE, -2);
        TurnedPosts y = Check.withLog("cross;cross;cross;cross;cross;cross;cross;", "");
        Check.dues("seven", what -> y.fits(0, 0, what), 2, 0, 0, 0, 0, 0, 0, 0, -2);
        TurnedPosts z = Check.withLog("", "");
        Check.dues("none", what -> z.fits(0, 0, what), 2, NONE, NONE, NONE, NONE, NONE, NONE, NONE, -2);
    }

    private static void askDue(String land, String log, int crossing) {
        Check.due("ask in " + land + " by " + log, Check.withLog(land, log).fits(0, 0, 1), crossing);
    }

    private static void ask() {
        Check.sentence("ASK: the CROSSING, no INN, such that of all that FIT the greatest number by which one more WALKER put there is "
            + "at the same place in the end is least");
        askDue("cross 3;cross 3 4;cross 3 4 3 3;cross;cross;inn 3;inn 4;", "", 1);
        askDue("cross 3;cross 3 4 3;cross 3 4;cross;cross;inn 3;inn 4;", "", 2);
        // one more: behind those of the FACTS
        askDue("cross 3;cross 3 4;cross 4 3;cross;cross;inn 3;inn 4;", "came 1 4;", 2);
        askDue("cross 3;cross 3 4;cross 4 3;cross;cross;inn 3;inn 4;", "came 2 4;", 1);
        askDue("cross 1 2;cross;cross;inn 1;inn 2;cross 0;cross 0 0;", "came 0 1;", 0);
        // the same place need be no INN
        askDue("cross 1;cross;cross 1 3;cross;", "", 2);
        askDue("cross 1 1;cross 1 1;cross;inn 1;", "", 0);
        askDue("cross;cross 0 2;cross;", "", 1);
        askDue("cross;cross 0 2 2 2;cross 0 3;cross;inn 0;", "", 2);
    }

    private static void askOfSeveral() {
        Check.sentence("of several the least");
        askDue("cross;cross 0;cross 0 0;inn 0;", "", 1);
        askDue("cross;cross;cross 3 4;cross;cross;cross 3 4;cross 4 3;inn 3;inn 4;", "", 2);
        askDue("cross;cross;cross;cross;cross;cross;cross;", "", 0);
        askDue("cross;cross;cross;cross;cross;cross;cross 4 5;inn 4;inn 5;", "", 6);
    }

    private static void askNone() {
        Check.sentence("1: ASK (NONE: nothing FITS, or there is no such CROSSING)");
        askDue("", "", NONE);
        askDue("cross;inn 0;", "", NONE);
        askDue("cross;cross;inn 0;", "", 1);
        askDue(TWO, "never 0;", NONE);
        askDue(TWO, "came 0 1;", 0);
    }

    private static void fitsRefused() {
        Check.sentence("-2: there is none such (of any), or for another what.");
        TurnedPosts x = new TurnedPosts();
        Check.due("no land, no log", x.fits(0, 0, 0), -2);
        Check.due("land", Check.land(x, TWO), 0);
        Check.due("no log", x.fits(0, 0, 0), -2);
        Check.due("log", Check.log(x, "came 0 1;"), 0);
        Check.bounds("land", i -> x.fits(i, 0, 0), 0, 0, -2);
        Check.bounds("log", i -> x.fits(0, i, 0), 0, 0, -2);
        Check.due("second", Check.land(x, TWO) + Check.log(x, ""), 2);
        for (int what : new int[] {0, 1, 2, 10}) {
            Check.bounds("land", i -> x.fits(i, 0, what), 0, 1, -2);
            Check.bounds("log", i -> x.fits(0, i, what), 0, 1, -2);
        }
        Check.bounds("what", what -> x.fits(0, 0, what), 0, 8, -2);
        Check.dues("what", what -> x.fits(0, 0, what), -2, -2, -2, 1, 0, 1, 0, 0, NONE, NONE, NONE, NONE, -2, 1100, -2, -2);
        Check.due("far off", x.fits(0, 0, Integer.MAX_VALUE) + x.fits(0, 0, Integer.MIN_VALUE), -4);
        TurnedPosts noLand = new TurnedPosts();
        Check.due("log", Check.log(noLand, ""), 0);
        Check.due("no land", noLand.fits(0, 0, 0), -2);
    }

    // ---- ODDS, LEAST, MOST ----

    private static void oddsDue(TurnedPosts x, int c, int r, int over, int under) {
        Check.due("odds N " + c + " " + r, x.odds(0, 0, c, r, false), over);
        Check.due("odds D " + c + " " + r, x.odds(0, 0, c, r, true), under);
    }

    private static void odds() {
        Check.sentence("ODDS of a POST, a ROAD: all ways that FIT being alike, how likely it points to it");
        TurnedPosts x = Check.withLog("cross 1 1 2 2;cross;cross;inn 1;inn 2;cross 1 2 2;", "came 0 1;");
        oddsDue(x, 0, 0, 1, 2);
        oddsDue(x, 0, 1, 0, 1);
        oddsDue(x, 0, 2, 0, 1);
        oddsDue(x, 0, 3, 1, 2);
        oddsDue(x, 3, 0, 1, 3);
        oddsDue(x, 3, 2, 1, 3);
        TurnedPosts y = Check.withLog(TWO, "came 0 1;");
        oddsDue(y, 0, 1, 1, 1);
        oddsDue(y, 0, 0, 0, 1);
    }

    private static void oddsInLeastTerms() {
        Check.sentence("a fraction in least terms");
        TurnedPosts x = Check.withLog(FULL, "");
        oddsDue(x, 0, 0, 1, 4);
        oddsDue(x, 6, 3, 1, 4);
        TurnedPosts y = Check.withLog("cross 1 2;cross 0 3;cross;cross;inn 2;inn 3;post 0 1;", "came 0 2;");
        oddsDue(y, 0, 0, 2, 3);
        oddsDue(y, 0, 1, 1, 3);
    }

    private static void oddsRefused() {
        Check.sentence("ODDS, N, or (under) D. NONE: nothing FITS, or there is none such (of any; a ROAD that is not there).");
        TurnedPosts x = new TurnedPosts();
        Check.due("no land, no log", x.odds(0, 0, 0, 0, false), NONE);
        Check.due("land", Check.land(x, TWO), 0);
        Check.due("no log", x.odds(0, 0, 0, 0, false), NONE);
        Check.due("log", Check.log(x, "came 0 1;"), 0);
        Check.bounds("land", i -> x.odds(i, 0, 0, 0, true), 0, 0, NONE);
        Check.bounds("log", i -> x.odds(0, i, 0, 0, true), 0, 0, NONE);
        Check.due("second", Check.land(x, FULL) + Check.log(x, ""), 2);
        for (boolean under : new boolean[] {false, true}) {
            Check.bounds("land", i -> x.odds(i, 1, 0, 0, under), 0, 1, NONE);
            Check.bounds("log", i -> x.odds(0, i, 0, 0, under), 0, 1, NONE);
            Check.bounds("crossing", c -> x.odds(1, 1, c, 3, under), 0, 6, NONE);
            Check.bounds("crossing", c -> x.odds(0, 1, c, 0, under), 0, 0, NONE);
            Check.bounds("road", r -> x.odds(1, 1, 6, r, under), 0, 3, NONE);
            Check.bounds("road", r -> x.odds(0, 1, 0, r, under), 0, 1, NONE);
            Check.due("nothing fits", x.odds(1, 0, 0, 0, under), NONE);
            Check.due("it fits", x.odds(0, 0, 0, 0, under) != NONE, true);
        }
        TurnedPosts noLand = new TurnedPosts();
        Check.due("log", Check.log(noLand, ""), 0);
        Check.due("no land", noLand.odds(0, 0, 0, 0, true), NONE);
        Check.sentence("INNS have no ROADS on here.");
        TurnedPosts inn = Check.withLog("cross 0 0;cross 0 0;inn 0;", "");
        oddsDue(inn, 0, 0, NONE, NONE);
        oddsDue(inn, 1, 0, 1, 2);
    }

    private static void leastDue(String land, String log, int least, int most) {
        TurnedPosts x = Check.withLog(land, log);
        Check.due("least in " + land + " by " + log, x.least(0, 0, false), least);
        Check.due("most in " + land + " by " + log, x.least(0, 0, true), most);
    }

    private static void least() {
        Check.sentence("LEAST, MOST STEPS that all of its FACTS' WALKERS take together by any way that FITS.");
        leastDue(TWO, "", 0, 0);
        leastDue("", "", 0, 0);
        leastDue(TWO, "came 1 1;", 0, 0);
        leastDue(TWO, "came 0 1;", 1, 1);
        leastDue(TWO, "came 0 1;came 0 2;came 1 1;", 2, 2);
        leastDue("cross 1 0 0;cross;inn 1;", "came 0 1;", 1, 3);
        leastDue("cross 1 0 0;cross;inn 1;", "came 0 1;came 0 1;", 4, 6);
        leastDue("cross 0;", "never 0;".repeat(8), 8 * 499, 8 * 499);
        leastDue("cross;", "never 0;".repeat(8), 0, 0);
        leastDue("cross 2 1;cross 1;cross;", "never 0;", 1, 499);
        Check.due("499 of one who comes", Check.withLog(FAR, "came 0 5;").least(0, 0, true), 499);
    }

    private static void leastNone() {
        Check.sentence("NONE: nothing FITS");
        leastDue(TWO, "never 0;", NONE, NONE);
        leastDue(TWO, "never 3;", NONE, NONE);
        leastDue("", "never 0;", NONE, NONE);
        leastDue("cross;", "never 0;", 0, 0);
    }

    private static void leastRefused() {
        Check.sentence("LEAST, or (most) MOST. NONE: nothing FITS, or there is none such (of either).");
        TurnedPosts x = new TurnedPosts();
        Check.due("no land, no log", x.least(0, 0, false), NONE);
        Check.due("land", Check.land(x, TWO), 0);
        Check.due("no log", x.least(0, 0, false), NONE);
        Check.due("log", Check.log(x, ""), 0);
        Check.bounds("land", i -> x.least(i, 0, true), 0, 0, NONE);
        Check.bounds("log", i -> x.least(0, i, true), 0, 0, NONE);
        Check.due("second", Check.land(x, TWO) + Check.log(x, "came 0 1;"), 2);
        for (boolean most : new boolean[] {false, true}) {
            Check.bounds("land", i -> x.least(i, 1, most), 0, 1, NONE);
            Check.bounds("log", i -> x.least(1, i, most), 0, 1, NONE);
        }
        TurnedPosts noLand = new TurnedPosts();
        Check.due("log", Check.log(noLand, ""), 0);
        Check.due("no land", noLand.least(0, 0, true), NONE);
    }

    /** What FITS is worked out anew for another LAND, another LOG, and for those told in place of one. */
    private static void fitOfTwo() {
        Check.sentence("LANDS, at most 2 .. LOGS, at most 2");
        TurnedPosts x = Check.withLog(TWO, "came 0 1;");
        Check.due("second", Check.land(x, "cross 1 1 1 2;cross;cross;inn 1;inn 2;") + Check.log(x, "came 0 2;"), 2);
        int[][] due = {{1, 1}, {3, 1}};
        for (int time = 0; time < 2; time++) {
            for (int i = 0; i < 2; i++) {
                int land = i;
                Check.dues("fits", log -> x.fits(land, log, 0), 0, due[i]);
                Check.dues("fits", log -> x.fits(log, land, 0), 0, due[0][i], due[1][i]);
            }
        }
        Check.due("image", x.image(1), true);
        Check.due("log in place", Check.text(x, 2, 1, "came 0 1;"), 1);
        Check.due("fits", x.fits(1, 1, 0), 3);
        Check.due("land in place", Check.text(x, 0, 1, "cross 1 1 1 1;cross;cross;inn 1;inn 2;"), 1);
        Check.due("fits", x.fits(1, 1, 0), 4);
        Check.due("a fault", Check.text(x, 2, 1, "came 0 2"), NONE);
        Check.due("fits", x.fits(1, 1, 0), 4);
        Check.due("again", x.again(1), true);
        Check.due("fits", x.fits(1, 1, 0), 1);
        Check.due("many steps", Check.text(x, 2, 0, "never 0;never 0;") + Check.text(x, 0, 0, "cross 0;"), 0);
        Check.due("no steps", Check.text(x, 2, 1, ""), 1);
        for (int time = 0; time < 2; time++) {
            Check.dues("most", log -> x.least(0, log, true), 0, 998, 0);
            Check.dues("least", log -> x.least(0, log, false), 0, 998, 0);
        }
    }
}
