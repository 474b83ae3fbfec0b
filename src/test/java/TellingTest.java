/** Promises 1 to 7, 19, 34 to 36: what is told, and what of it is held. */
public final class TellingTest {
    private static final int NONE = TurnedPosts.NONE;

    public static void main(String[] args) {
        newObject();
        feedAndEnd();
        texts();
        faultsOfLands();
        faultsOfDaysAndLogs();
        faultsByPlace();
        lands();
        deeds();
        facts();
        images();
        imagesHoldAll();
        Check.done("TellingTest");
    }

    private static void newObject() {
        TurnedPosts x = new TurnedPosts();
        Check.due("NONE", TurnedPosts.NONE, -1);
        for (int sort = 0; sort < 3; sort++) {
            Check.due("new count " + sort, x.count(sort), 0);
        }
        Check.due("count below", x.count(-1), -2);
        Check.due("count above", x.count(3), -2);
        Check.due("new fault", x.fault(0), 0);
        Check.due("new place", x.fault(1), NONE);
        Check.due("new tape", x.end(1), NONE);
        Check.due("new tape", x.end(0), 0);
        for (int k = -1; k < 4; k++) {
            Check.due("new again " + k, x.again(k), false);
        }
        Check.due("new land", x.land(0, 0), NONE);
        Check.due("new deed", x.deed(0, NONE, 0), -2);
        Check.due("new fact", x.fact(0, NONE, 0), -2);
    }

    private static void feedAndEnd() {
        TurnedPosts x = new TurnedPosts();
        for (int i = 1; i <= 30; i++) {
            Check.due("feed " + i, x.feed(0x20202020, 0x0a0a0a0a, 0x20202020, 0x20202020, 0x20202020), 20 * i);
        }
        Check.due("feed 31", x.feed(0x20202020, 0, 0, 0, 0), NONE);
        Check.due("end 601", x.end(601), NONE);
        Check.due("end 600", x.end(600), 600);
        Check.due("end -1", x.end(-1), NONE);
        Check.due("end low", x.end(Integer.MIN_VALUE), NONE);
        Check.due("end high", x.end(Integer.MAX_VALUE), NONE);
        Check.due("end 581", x.end(581), 581);
        Check.due("feed on 581", x.feed(0, 0, 0, 0, 0), NONE);
        Check.due("still 581", x.end(581), 581);
        Check.due("end 582", x.end(582), NONE);
        Check.due("end 580", x.end(580), 580);
        Check.due("feed on 580", x.feed(0x20202020, 0x20202020, 0x20202020, 0x20202020, 0x20202020), 600);
        Check.due("text of blanks", x.text(0, NONE), 0);
        Check.due("empty then", x.end(1), NONE);
        // the highest byte of a number is the first one
        Check.due("feed", x.feed('c' << 24 | 'r' << 16 | 'o' << 8 | 's', 's' << 24 | ';' << 16 | 'i' << 8 | 'n',
            'n' << 24 | ' ' << 16 | '0' << 8 | ';', 0, 0), 20);
        Check.due("end 12", x.end(12), 12);
        Check.due("text", x.text(0, NONE), 1);
        Check.due("inns", x.land(1, 1), 1);
    }

    private static void texts() {
        TurnedPosts x = new TurnedPosts();
        Check.due("at 0 of none", Check.text(x, 0, 0, "cross 7;"), -2);
        Check.due("no fault", x.fault(0), 0);
        Check.due("no place", x.fault(1), NONE);
        Check.due("empty then", x.end(1), NONE);
        Check.due("sort 3", Check.text(x, 3, NONE, "cross 7;"), -2);
        Check.due("sort -1", Check.text(x, -1, NONE, "cross 7;"), -2);
        Check.due("at -2", Check.text(x, 0, -2, "cross;"), -2);
        Check.due("empty then", x.end(1), NONE);
        Check.due("fault", Check.text(x, 0, NONE, "cross 7;"), NONE);
        Check.due("fault", x.fault(0), 2);
        Check.due("place", x.fault(1), 6);
        Check.due("what 2", x.fault(2), NONE);
        Check.due("what -1", x.fault(-1), NONE);
        Check.due("empty then", x.end(1), NONE);
        Check.due("no land", x.count(0), 0);
        Check.due("-2 has no fault", Check.text(x, 0, 0, "cross;"), -2);
        Check.due("-2 has no fault", x.fault(0), 0);
        for (int sort = 0; sort < 3; sort++) {
            Check.due("first of " + sort, x.text(sort, NONE), 0);
            Check.due("second of " + sort, x.text(sort, NONE), 1);
            Check.due("third of " + sort, x.text(sort, NONE), -2);
            Check.due("at 2 of " + sort, x.text(sort, 2), -2);
            Check.due("count of " + sort, x.count(sort), 2);
        }
        Check.due("in place", Check.text(x, 0, 1, "cross;cross;"), 1);
        Check.due("in place", x.land(1, 0), 2);
        Check.due("other one", x.land(0, 0), 0);
        Check.due("count", x.count(0), 2);
        Check.due("fault keeps", Check.text(x, 0, 1, "cross 0 0 0 0 0;"), NONE);
        Check.due("fault keeps", x.land(1, 0), 2);
        Check.due("fault", x.fault(0), 3);
        Check.due("fresh", Check.text(x, 0, 1, "cross;post 0 0;"), 1);
        Check.due("fault is the latest's", x.fault(0), 0);
        Check.due("fresh", x.land(1, 0), 1);
    }

    private static void faultsOfLands() {
        Check.fault(0, "", 0, NONE);
        Check.fault(0, " \n ", 0, NONE);
        Check.fault(0, "cross;", 0, NONE);
        Check.fault(0, "cross0;", 0, NONE);
        Check.fault(0, "cross00 00;post0 1;walkers 0 09;inn 00;", 0, NONE);
        Check.fault(0, "\ncross 0\n;\n", 0, NONE);
        Check.fault(0, "cross", 1, 5);
        Check.fault(0, "cross ", 1, 6);
        Check.fault(0, "cross 0", 1, 7);
        Check.fault(0, "cross 0 cross;", 1, 8);
        Check.fault(0, "crossx;", 1, 0);
        Check.fault(0, "crossz;", 1, 0);
        Check.fault(0, "across;", 1, 0);
        Check.fault(0, "cross 0`;", 1, 7);
        Check.fault(0, "cross 0{;", 1, 7);
        Check.fault(0, "cross 0/;", 1, 7);
        Check.fault(0, "cross 0:;", 1, 7);
        Check.fault(0, "cross 0 9 9 12 6x;", 1, 16);
        Check.fault(0, "cros 0;", 1, 0);
        Check.fault(0, " Cross;", 1, 1);
        Check.fault(0, ";", 1, 0);
        Check.fault(0, "cross;;", 1, 6);
        Check.fault(0, "0;", 1, 0);
        Check.fault(0, "cross 000;", 1, 6);
        Check.fault(0, "cross 0 123 0;", 1, 8);
        Check.fault(0, "cross 0,0;", 1, 7);
        Check.fault(0, "cross\t;", 1, 5);
        Check.fault(0, "cross\r;", 1, 5);
        Check.fault(0, "cross 0" + (char) 233 + ";", 1, 7);
        Check.fault(0, "cross 0" + (char) 0 + ";", 1, 7);
        Check.fault(0, "cross;post 0;", 1, 12);
        Check.fault(0, "cross;post 0 0 0;", 1, 15);
        Check.fault(0, "cross;inn;", 1, 9);
        Check.fault(0, "cross;inn 0 0;", 1, 12);
        Check.fault(0, "cross;walkers 0 1", 1, 17);
        Check.fault(0, "go 0;", 1, 0);
        Check.fault(0, "cross 7;", 2, 6);
        Check.fault(0, "cross 0  99;", 2, 9);
        Check.fault(0, "cross;post 7 0;", 2, 11);
        Check.fault(0, "cross;post 0 4;", 2, 13);
        Check.fault(0, "cross;walkers 7 0;", 2, 14);
        Check.fault(0, "cross;walkers 0 10;", 2, 16);
        Check.fault(0, "cross;walkers 0 9;", 0, NONE);
        Check.fault(0, "cross;inn 7;", 2, 10);
        Check.fault(0, "cross;cross;cross;cross;cross;cross;cross 6;", 0, NONE);
        Check.fault(0, "cross;cross;cross;cross;cross;cross;cross; cross 0;", 3, 43);
        Check.fault(0, "cross 0 0 0 0;", 0, NONE);
        Check.fault(0, "cross 0 0 0 0 0;", 3, 14);
        Check.fault(0, "cross 1;", 4, 8);
        Check.fault(0, "cross 1; ", 4, 9);
        Check.fault(0, "post 0 0;", 4, 9);
        Check.fault(0, "cross;walkers 1 0;", 4, 18);
        Check.fault(0, "inn 0;", 4, 6);
        Check.fault(0, "inn 0;cross;", 0, NONE);
        Check.fault(0, "cross 0;post 0 1;", 5, 17);
        Check.fault(0, "cross;post 0 1;", 5, 15);
        Check.fault(0, "post 0 1;cross 0 0;", 0, NONE);
        Check.fault(0, "cross;post 0 1;post 0 0;", 0, NONE);
        Check.fault(0, "cross 1;post 0 1;", 4, 17);
        Check.fault(0, "cross 0 0 0;post 0 3;", 5, 21);
    }

    private static void faultsOfDaysAndLogs() {
        Check.fault(1, "", 0, NONE);
        Check.fault(1, "go 6;run 6;turn 6;add 6;shut 6 3;open 6 3;", 0, NONE);
        Check.fault(1, "go 7;", 2, 3);
        Check.fault(1, "run 7;", 2, 4);
        Check.fault(1, "turn 7;", 2, 5);
        Check.fault(1, "add 7;", 2, 4);
        Check.fault(1, "shut 7 0;", 2, 5);
        Check.fault(1, "open 0 4;", 2, 7);
        Check.fault(1, "go;", 1, 2);
        Check.fault(1, "go 0 0;", 1, 5);
        Check.fault(1, "shut 0;", 1, 6);
        Check.fault(1, "shut 0 0 0;", 1, 9);
        Check.fault(1, "walk 0;", 1, 0);
        Check.fault(1, "go 0", 1, 4);
        Check.fault(1, "g o 0;", 1, 0);
        Check.fault(1, "go0;".repeat(40), 0, NONE);
        Check.fault(1, "go0;".repeat(41), 3, 160);
        Check.fault(1, "go0;".repeat(41) + "go", 1, 166);
        Check.fault(2, "", 0, NONE);
        Check.fault(2, "came 6 6;never 6;", 0, NONE);
        Check.fault(2, "came 7 6;", 2, 5);
        Check.fault(2, "came 6 7;", 2, 7);
        Check.fault(2, "never 7;", 2, 6);
        Check.fault(2, "came 0;", 1, 6);
        Check.fault(2, "never 0 0;", 1, 8);
        Check.fault(2, "go 0;", 1, 0);
        Check.fault(2, "never 0;".repeat(8), 0, NONE);
        Check.fault(2, "never 0;".repeat(9), 3, 64);
    }

    private static void faultsByPlace() {
        // a text that breaks off at all has that fault, however late
        Check.fault(0, "cross 7 0 0 0 0 0;x", 1, 18);
        // else the first by place of 2 and 3, of one place 2
        Check.fault(0, "cross 0 0 0 0 0 7;", 3, 14);
        Check.fault(0, "cross 0 0 0 0 7;", 2, 14);
        Check.fault(0, "cross 7 0 0 0 0;", 2, 6);
        Check.fault(0, "cross 0 0 0 0 0;post 7 0;", 3, 14);
        Check.fault(0, "cross 1;post 7 0;", 2, 13);
        // a line with a number that can't be tells its crossing, deed, fact all the same
        Check.fault(0, "cross;cross;cross;cross;cross;cross;cross;cross 7;", 3, 42);
        Check.fault(1, "go0;".repeat(40) + "go7;", 3, 160);
        Check.fault(1, "go7;" + "go0;".repeat(40), 2, 2);
        Check.fault(2, "never 0;".repeat(8) + "never 7;", 3, 64);
    }

    private static void lands() {
        TurnedPosts x = Check.withLand("cross 1 2;inn 2;cross 0;walkers 0 3;cross 2 0 1;post 0 1;walkers 0 4;inn 2;"
            + "post 2 2;post 0 0;post 0 1;inn 0;");
        Check.due("crossings", x.land(0, 0), 3);
        Check.due("inns", x.land(0, 1), 5);
        int[] roads = {2, 1, 3};
        int[] posts = {1, 0, 2};
        int[] walkers = {4, 0, 0};
        int[][] leads = {{1, 2}, {0}, {2, 0, 1}};
        for (int c = 0; c < 10; c++) {
            boolean there = c < 3;
            Check.due("roads " + c, x.land(0, 10 + c), there ? roads[c] : NONE);
            Check.due("post " + c, x.land(0, 20 + c), there ? posts[c] : NONE);
            Check.due("walkers " + c, x.land(0, 30 + c), there ? walkers[c] : NONE);
            for (int k = 0; k < 10; k++) {
                Check.due("road " + c + " " + k, x.land(0, 100 + 10 * c + k),
                    there && k < roads[c] ? leads[c][k] : NONE);
            }
        }
        for (int what : new int[] {-1, 2, 9, 40, 41, 99, 200, 1000, Integer.MAX_VALUE, Integer.MIN_VALUE, -10, -20}) {
            Check.due("land " + what, x.land(0, what), NONE);
        }
        Check.due("land 1", x.land(1, 0), NONE);
        Check.due("land -1", x.land(-1, 0), NONE);
        Check.due("land 2", x.land(2, 0), NONE);
    }

    private static void deeds() {
        TurnedPosts x = new TurnedPosts();
        Check.due("day", Check.day(x, "go 0;run 1;turn 2;add 3;shut 4 1;open 5 2;"), 0);
        Check.due("how many", x.deed(0, NONE, 0), 6);
        Check.due("how many, what 1", x.deed(0, NONE, 1), -2);
        for (int k = 0; k < 6; k++) {
            Check.due("kind", x.deed(0, k, 0), k);
            Check.due("crossing", x.deed(0, k, 1), k);
            Check.due("road", x.deed(0, k, 2), k < 4 ? NONE : k - 3);
            Check.due("what 3", x.deed(0, k, 3), -2);
            Check.due("what -1", x.deed(0, k, -1), -2);
        }
        Check.due("deed 6", x.deed(0, 6, 0), -2);
        Check.due("deed -2", x.deed(0, -2, 0), -2);
        Check.due("day 1", x.deed(1, 0, 0), -2);
        Check.due("day -1", x.deed(-1, NONE, 0), -2);
    }

    private static void facts() {
        TurnedPosts x = new TurnedPosts();
        Check.due("log", Check.log(x, "came 5 2;never 3;"), 0);
        Check.due("how many", x.fact(0, NONE, 0), 2);
        Check.due("how many, what 1", x.fact(0, NONE, 1), -2);
        Check.due("crossing", x.fact(0, 0, 0), 5);
        Check.due("inn", x.fact(0, 0, 1), 2);
        Check.due("crossing", x.fact(0, 1, 0), 3);
        Check.due("never", x.fact(0, 1, 1), NONE);
        Check.due("what 2", x.fact(0, 0, 2), -2);
        Check.due("what -1", x.fact(0, 0, -1), -2);
        Check.due("fact 2", x.fact(0, 2, 0), -2);
        Check.due("fact -2", x.fact(0, -2, 0), -2);
        Check.due("log 1", x.fact(1, NONE, 0), -2);
        Check.due("log -1", x.fact(-1, NONE, 0), -2);
    }

    private static void images() {
        TurnedPosts x = Check.withLand("cross;");
        Check.due("image -1", x.image(-1), false);
        Check.due("image 3", x.image(3), false);
        Check.due("again 0", x.again(0), false);
        Check.due("image 0", x.image(0), true);
        Check.due("land", Check.text(x, 0, 0, "cross;cross;"), 0);
        Check.due("image 2", x.image(2), true);
        Check.due("again 1", x.again(1), false);
        Check.due("again 0", x.again(0), true);
        Check.due("as then", x.land(0, 0), 1);
        Check.due("again 2", x.again(2), true);
        Check.due("as then", x.land(0, 0), 2);
        Check.due("again 0", x.again(0), true);
        Check.due("as then", x.land(0, 0), 1);
        Check.due("again 3", x.again(3), false);
        Check.due("again -1", x.again(-1), false);
        Check.due("image 0 anew", x.image(0) && x.again(2) && x.image(0) && x.again(0), true);
        Check.due("as then", x.land(0, 0), 2);
    }

    private static void imagesHoldAll() {
        TurnedPosts x = Check.withLand("cross 1 0;cross;inn 1;");
        Check.day(x, "add 0;go 0;");
        Check.log(x, "came 0 1;");
        Check.due("lot before", x.lot(0, 0, 1, true), 1);
        Check.due("fits before", x.fits(0, 0, 0), 2);
        Check.due("a fault", Check.land(x, "cross 9;"), NONE);
        Check.tape(x, "cross;inn 0;");
        Check.due("image", x.image(1), true);
        Check.due("other land", x.end(0), 0);
        Check.due("other land", Check.text(x, 0, 0, "cross 0 0 0 1;cross;"), 0);
        Check.due("other day", Check.text(x, 1, 0, "add 0;add 0;add 0;"), 0);
        Check.due("other log", Check.text(x, 2, 0, "never 0;"), 0);
        Check.due("more", Check.land(x, "") + Check.day(x, "") + Check.log(x, ""), 3);
        Check.due("fits then", x.fits(0, 0, 0), 4);
        Check.due("lot then", x.lot(0, 0, 1, true), NONE);
        Check.due("again", x.again(1), true);
        Check.due("fault", x.fault(0), 2);
        Check.due("place", x.fault(1), 6);
        Check.due("counts", x.count(0) + x.count(1) + x.count(2), 3);
        Check.due("deeds", x.deed(0, NONE, 0), 2);
        Check.due("facts", x.fact(0, 0, 1), 1);
        Check.due("fits again", x.fits(0, 0, 0), 2);
        Check.due("lot again", x.lot(0, 0, 1, true), 1);
        Check.due("tape", x.end(13), NONE);
        Check.due("tape", x.text(0, NONE), 1);
        Check.due("tape's land", x.land(1, 1), 1);
    }
}
