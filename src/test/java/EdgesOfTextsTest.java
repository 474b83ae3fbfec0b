/** Term 1, promises 1 to 7, 19, 34 to 36: each sentence that names a boundary, on both sides of it. */
public final class EdgesOfTextsTest {
    private static final int NONE = TurnedPosts.NONE;
    private static final int LAND = 0;
    private static final int DAY = 1;
    private static final int LOG = 2;
    private static final String SIX = "cross;cross;cross;cross;cross;cross;";

    public static void main(String[] args) {
        crossings();
        roads();
        posts();
        inns();
        eachBeginsAnew();
        walkers();
        deedsAndFacts();
        tapeOfSixHundred();
        tokens();
        blanks();
        words();
        numbers();
        semicolons();
        grammarOfLands();
        grammarOfDays();
        grammarOfLogs();
        numbersOfLands();
        numbersOfDaysAndLogs();
        laterOnesStrike();
        furtherOnes();
        placesOfTheFirst();
        aLongerRow();
        firstByPlace();
        tellsAllTheSame();
        tooMany();
        toldOfAndNotThere();
        roadsNotThere();
        ofALandAlone();
        howManyTexts();
        newObject();
        fiveHundredTwelveCalls();
        feed();
        end();
        text();
        textRefused();
        fault();
        land();
        deed();
        fact();
        count();
        image();
        again();
        Check.done("EdgesOfTextsTest");
    }

    // ---- term 1: what a LAND, a DAY, a LOG has ----

    private static void crossings() {
        Check.sentence("A LAND has CROSSINGS, at most 7, from 0 on");
        for (int n = 0; n <= 7; n++) {
            TurnedPosts x = Check.withLand("cross;".repeat(n));
            Check.due("crossings", x.land(0, 0), n);
            Check.due("the last one", x.land(0, 10 + n - 1), n == 0 ? NONE : 0);
            Check.due("one more", x.land(0, 10 + n), NONE);
        }
        Check.fault(LAND, "cross;".repeat(8), 3, 42);
    }

    private static void roads() {
        Check.sentence("ROADS of each, at most 4, in a row, from 0 on, each leads to a CROSSING (to itself, too)");
        TurnedPosts x = Check.withLand(SIX + "cross 6 0 5 6;");
        TurnedPosts last = x;
        Check.due("roads", last.land(0, 16), 4);
        Check.dues("leads", i -> last.land(0, i), 160, 6, 0, 5, 6, NONE);
        Check.fault(LAND, SIX + "cross 6 0 5 6 6;", 3, 50);
        TurnedPosts all = Check.withLand("cross 0 1 2 3;cross 1 2 3 0;cross 0;cross;");
        Check.dues("each has four of its own", i -> all.land(0, i), 10, 4, 4, 1, 0, NONE);
        Check.dues("of 0", i -> all.land(0, i), 100, 0, 1, 2, 3, NONE);
        Check.dues("of 1", i -> all.land(0, i), 110, 1, 2, 3, 0, NONE);
        Check.dues("of 2", i -> all.land(0, i), 120, 0, NONE);
        Check.dues("of 3", i -> all.land(0, i), 130, NONE);
    }

    private static void posts() {
        Check.sentence("a POST at each, that points to one of its ROADS (0 at first; without ROADS 0, too)");
        TurnedPosts x = Check.withLand("cross 0 0 0 0;cross;cross 0 0 0 0;cross;post 2 3;post 3 0;");
        Check.dues("posts", c -> x.land(0, c), 20, 0, 0, 3, 0, NONE);
        Check.fault(LAND, "cross;post 0 1;", 5, 15);
    }

    private static void inns() {
        Check.sentence("INNS, CROSSINGS (none at first)");
        Check.due("none", Check.withLand(SIX + "cross;").land(0, 1), 0);
        Check.due("the first", Check.withLand(SIX + "cross;inn 0;").land(0, 1), 1);
        Check.due("the last", Check.withLand(SIX + "cross;inn 6;").land(0, 1), 64);
        Check.due("all", Check.withLand(SIX + "cross;inn 0;inn 1;inn 2;inn 3;inn 4;inn 5;inn 6;").land(0, 1), 127);
    }

    /** What an earlier text told, one with a FAULT as well, is not in a later one. */
    private static void eachBeginsAnew() {
        Check.sentence("(0 at first .. (none at first)");
        String full = "cross 0 1 1 1;cross 1 0 0 0;post 0 3;post 1 2;inn 0;inn 1;walkers 0 9;walkers 1 8;";
        String[] befores = {full, full + "!"};
        for (String before : befores) {
            TurnedPosts x = new TurnedPosts();
            int at = Check.land(x, before) == 0 ? 0 : NONE;
            Check.due("land", Check.text(x, 0, at, "cross 1 1 1 1;cross;"), 0);
            Check.due("inns", x.land(0, 1), 0);
            Check.dues("roads", c -> x.land(0, c), 10, 4, 0);
            Check.dues("posts", c -> x.land(0, c), 20, 0, 0);
            Check.dues("walkers", c -> x.land(0, c), 30, 0, 0);
            Check.dues("leads", i -> x.land(0, i), 110, NONE);
            Check.due("second", Check.land(x, "cross;"), 1);
            Check.dues("of the second", i -> x.land(1, i), 0, 1, 0);
        }
        TurnedPosts y = new TurnedPosts();
        Check.due("day", Check.day(y, "shut 1 2;open 1 2;") + Check.day(y, "go 3;"), 1);
        Check.dues("of the second", what -> y.deed(1, 0, what), 0, 0, 3, NONE);
        Check.due("no more", y.deed(1, NONE, 0), 1);
        Check.due("log", Check.log(y, "came 1 2;came 1 2;") + Check.log(y, "never 3;"), 1);
        Check.dues("of the second", what -> y.fact(1, 0, what), 0, 3, NONE);
        Check.due("no more", y.fact(1, NONE, 0), 1);
        Check.due("a fault of crossings", Check.land(y, "cross 6;"), NONE);
        Check.due("not told of here", Check.land(y, "cross;"), 0);
    }

    private static void walkers() {
        Check.sentence("WALKERS at each, 0 .. 9 (0 at first)");
        TurnedPosts x = Check.withLand(SIX + "cross;walkers 0 0;walkers 1 1;walkers 2 9;walkers 6 9;");
        Check.dues("walkers", c -> x.land(0, c), 30, 0, 1, 9, 0, 0, 0, 9, NONE);
        Check.fault(LAND, SIX + "cross;walkers 6 10;", 2, 52);
        Check.fault(LAND, SIX + "cross;walkers 0 10;", 2, 52);
    }

    private static void deedsAndFacts() {
        Check.sentence("A DAY has DEEDS, at most 40, from 0 on.");
        for (int n : new int[] {0, 1, 39, 40}) {
            TurnedPosts x = new TurnedPosts();
            Check.due("day", Check.day(x, "run 5;".repeat(n)), 0);
            Check.due("deeds", x.deed(0, NONE, 0), n);
            Check.due("the last", x.deed(0, n - 1, 0), n == 0 ? 0 : 1);
            Check.due("behind the last", x.deed(0, n, 0), -2);
        }
        Check.fault(DAY, "run 5;".repeat(41), 3, 240);
        Check.sentence("A LOG has FACTS, at most 8, from 0 on");
        for (int n : new int[] {0, 1, 7, 8}) {
            TurnedPosts x = new TurnedPosts();
            Check.due("log", Check.log(x, "never 5;".repeat(n)), 0);
            Check.due("facts", x.fact(0, NONE, 0), n);
            Check.due("the last", x.fact(0, n - 1, 0), n == 0 ? 0 : 5);
            Check.due("behind the last", x.fact(0, n, 0), -2);
        }
        Check.fault(LOG, "never 5;".repeat(9), 3, 64);
    }

    // ---- term 1: the tape and its tokens ----

    private static void tapeOfSixHundred() {
        Check.sentence("THE TAPE has at most 600 bytes.");
        String full = "cross;" + " ".repeat(588) + "inn 0;";
        Check.due("length", full.length(), 600);
        Check.whole(LAND, full);
        Check.fault(LAND, full.substring(0, 599), 1, 599);
        Check.fault(LAND, full.substring(0, 599) + "x", 1, 599);
        Check.fault(LAND, " ".repeat(594) + "cross0", 1, 600);
        Check.whole(LAND, " ".repeat(600));
        TurnedPosts x = new TurnedPosts();
        Check.tape(x, full);
        Check.due("no more", x.feed(0, 0, 0, 0, 0), NONE);
        Check.due("all of it is read", x.text(LAND, NONE), 0);
        Check.due("the last token", x.land(0, 1), 1);
    }

    private static void tokens() {
        Check.sentence("TOKENS, as long as they go");
        Check.whole(LAND, "cross;inn0;");
        Check.whole(LAND, "cross0;post0 0;walkers0 1;inn0;");
        Check.fault(LAND, "crossinn 0;", 1, 0);
        Check.fault(LAND, "cross;innn 0;", 1, 6);
        Check.fault(LAND, "cross;post 00;", 1, 13);
        Check.whole(LAND, "cross;post 0 0;");
        Check.fault(LAND, "cross;walkers 0 1 1;", 1, 18);
        Check.fault(LAND, "cross;walkers 0 11;", 2, 16);
        Check.fault(LAND, "cross 00000;", 1, 6);
        Check.whole(LAND, "cross 00 00 0;");
        Check.fault(LAND, "cross 11;", 2, 6);
        Check.fault(LAND, "cross 1 1;", 4, 10);
    }

    private static void blanks() {
        Check.sentence("blanks (10, 32) between");
        for (int b = 0; b < 256; b++) {
            String blank = "" + (char) b;
            boolean isBlank = b == 10 || b == 32;
            Check.fault(LAND, "cross;inn 0;" + blank, isBlank ? 0 : 1, isBlank ? NONE : 12);
            Check.fault(LAND, blank + "cross;inn 0;", isBlank ? 0 : 1, isBlank ? NONE : 0);
            boolean isDigit = b >= '0' && b <= '9';
            Check.fault(LAND, "cross;inn" + blank + "0;", isBlank || b == '0' ? 0 : isDigit ? 2 : 1,
                isBlank || b == '0' ? NONE : b >= 'a' && b <= 'z' ? 6 : 9);
            Check.fault(LAND, "cross 0" + blank + "0;", isBlank ? 0 : 1,
                isBlank ? NONE : isDigit ? 6 : b == ';' ? 8 : 7);
        }
        Check.whole(LAND, "\n  cross\n\n0 \n 0 ;\n \ninn  0\n; \n");
        Check.fault(LAND, "cro ss;", 1, 0);
        Check.fault(LAND, "cross;inn 0 ", 1, 12);
    }

    private static void words() {
        Check.sentence("words, rows of letters a .. z");
        String[] lands = {"cross", "post", "walkers", "inn"};
        String[] days = {"go", "run", "turn", "add", "shut", "open"};
        String[] logs = {"came", "never"};
        wordsOf(LAND, "cross;", lands, "0 0", "", "0 0", "0 0", "0");
        wordsOf(DAY, "", days, "", "0", "0", "0", "0", "0 0", "0 0");
        wordsOf(LOG, "", logs, "", "0 0", "0");
        Check.fault(LAND, "cross`;", 1, 5);
        Check.fault(LAND, "cross{;", 1, 5);
        Check.fault(LAND, "cross" + (char) ('z' + 128) + ";", 1, 5);
        Check.fault(LAND, "zross;", 1, 0);
        Check.fault(LAND, "crossa;", 1, 0);
        Check.fault(LAND, "crossz;", 1, 0);
        Check.fault(LAND, "cros;", 1, 0);
        Check.fault(LAND, "xcross;", 1, 0);
    }

    /** Each word of a sort is one; a letter less, a letter more, another letter, a capital one: none. */
    private static void wordsOf(int sort, String before, String[] words, String unused, String... numbers) {
        for (int i = 0; i < words.length; i++) {
            String word = words[i];
            String rest = " " + numbers[i] + ";";
            Check.whole(sort, before + word + rest);
            Check.fault(sort, before + word.substring(0, word.length() - 1) + rest, 1, before.length());
            Check.fault(sort, before + word.substring(1) + rest, 1, before.length());
            Check.fault(sort, before + word + "a" + rest, 1, before.length());
            Check.fault(sort, before + word.toUpperCase() + rest, 1, before.length());
            for (int k = 0; k < word.length(); k++) {
                char other = word.charAt(k) == 'q' ? 'k' : 'q';
                Check.fault(sort, before + word.substring(0, k) + other + word.substring(k + 1) + rest, 1,
                    before.length());
            }
            for (int another = 0; another < 3; another++) {
                if (another != sort) {
                    Check.fault(another, word + rest, 1, 0);
                }
            }
        }
    }

    private static void numbers() {
        Check.sentence("NUMBERS, 1 or 2 digits");
        Check.whole(LAND, "cross 0;");
        Check.whole(LAND, "cross 00;");
        Check.fault(LAND, "cross 000;", 1, 6);
        Check.whole(LAND, SIX + "cross 06 6;");
        Check.fault(LAND, "cross /;", 1, 6);
        Check.fault(LAND, "cross :;", 1, 6);
        TurnedPosts x = Check.withLand(SIX + "cross 00 01 02 03;walkers 6 09;walkers 5 9;walkers 4 05;post 06 03;");
        Check.dues("leads", i -> x.land(0, i), 160, 0, 1, 2, 3);
        Check.dues("walkers", i -> x.land(0, i), 34, 5, 9, 9);
        Check.due("post", x.land(0, 26), 3);
        for (int n = 7; n < 100; n++) {
            Check.fault(LAND, "cross " + n + ";", 2, 6);
        }
        Check.fault(LAND, "cross 100;", 1, 6);
    }

    private static void semicolons() {
        Check.sentence("; one byte");
        Check.whole(LAND, "cross;cross ;");
        Check.fault(LAND, "cross;;", 1, 6);
        Check.fault(LAND, "cross ;;", 1, 7);
        Check.fault(LAND, ";", 1, 0);
        Check.fault(LAND, "cross:", 1, 5);
        Check.fault(LAND, "cross<", 1, 5);
    }

    // ---- term 1: the texts ----

    private static void grammarOfLands() {
        Check.sentence("A LAND's text: {('cross' {NUMBER} | ('post' | 'walkers') NUMBER NUMBER | 'inn' NUMBER) ';'}");
        Check.whole(LAND, "");
        Check.whole(LAND, "cross;");
        Check.whole(LAND, "inn 0;walkers 0 0;post 0 0;cross 0;");
        for (String word : new String[] {"post", "walkers"}) {
            int at = 6 + word.length();
            Check.fault(LAND, "cross;" + word + ";", 1, at);
            Check.fault(LAND, "cross;" + word + " 0;", 1, at + 2);
            Check.whole(LAND, "cross;" + word + " 0 0;");
            Check.fault(LAND, "cross;" + word + " 0 0 0;", 1, at + 5);
            Check.fault(LAND, "cross;" + word + " 0 0", 1, at + 4);
            Check.fault(LAND, "cross;" + word + " 0 0 inn 0;", 1, at + 5);
            Check.fault(LAND, "cross;" + word, 1, at);
            Check.fault(LAND, "cross;" + word + " x 0;", 1, at + 1);
        }
        Check.fault(LAND, "cross;inn;", 1, 9);
        Check.whole(LAND, "cross;inn 0;");
        Check.fault(LAND, "cross;inn 0 0;", 1, 12);
        Check.fault(LAND, "cross 0", 1, 7);
        Check.fault(LAND, "cross cross;", 1, 6);
        Check.fault(LAND, "0;", 1, 0);
        Check.fault(LAND, "go 0;", 1, 0);
        Check.fault(LAND, "never 0;", 1, 0);
    }

    private static void grammarOfDays() {
        Check.sentence("A DAY's text: {(('go' | 'run' | 'turn' | 'add') NUMBER | ('shut' | 'open') NUMBER NUMBER) ';'}");
        Check.whole(DAY, "");
        for (String word : new String[] {"go", "run", "turn", "add"}) {
            int at = word.length();
            Check.fault(DAY, word + ";", 1, at);
            Check.whole(DAY, word + " 0;");
            Check.fault(DAY, word + " 0 0;", 1, at + 3);
            Check.fault(DAY, word + " 0", 1, at + 2);
        }
        for (String word : new String[] {"shut", "open"}) {
            Check.fault(DAY, word + ";", 1, 4);
            Check.fault(DAY, word + " 0;", 1, 6);
            Check.whole(DAY, word + " 0 0;");
            Check.fault(DAY, word + " 0 0 0;", 1, 9);
            Check.fault(DAY, word + " 0 0", 1, 8);
        }
        Check.fault(DAY, "cross;", 1, 0);
        Check.fault(DAY, "came 0 0;", 1, 0);
    }

    private static void grammarOfLogs() {
        Check.sentence("A LOG's text: {('came' NUMBER NUMBER | 'never' NUMBER) ';'}");
        Check.whole(LOG, "");
        Check.fault(LOG, "came;", 1, 4);
        Check.fault(LOG, "came 0;", 1, 6);
        Check.whole(LOG, "came 0 0;");
        Check.fault(LOG, "came 0 0 0;", 1, 9);
        Check.fault(LOG, "came 0 0", 1, 8);
        Check.fault(LOG, "never;", 1, 5);
        Check.whole(LOG, "never 0;");
        Check.fault(LOG, "never 0 0;", 1, 8);
        Check.fault(LOG, "never 0", 1, 7);
        Check.fault(LOG, "inn 0;", 1, 0);
        Check.fault(LOG, "run 0;", 1, 0);
    }

    private static void numbersOfLands() {
        Check.sentence("CROSSINGS are 0 .. 6");
        Check.whole(LAND, SIX + "cross 0;post 0 0;walkers 0 0;inn 0;");
        Check.whole(LAND, SIX + "cross 6;post 6 0;walkers 6 0;inn 6;");
        Check.fault(LAND, SIX + "cross 7;", 2, 42);
        Check.fault(LAND, SIX + "cross 6 0 6 7;", 2, 48);
        Check.fault(LAND, SIX + "cross;post 7 0;", 2, 47);
        Check.fault(LAND, SIX + "cross;walkers 7 0;", 2, 50);
        Check.fault(LAND, SIX + "cross;inn 7;", 2, 46);
        Check.sentence("post: a CROSSING, a ROAD, 0 .. 3");
        Check.whole(LAND, "cross 0 0 0 0;post 0 0;");
        Check.whole(LAND, "cross 0 0 0 0;post 0 3;");
        Check.fault(LAND, "cross 0 0 0 0;post 0 4;", 2, 21);
    }

    private static void numbersOfDaysAndLogs() {
        Check.sentence("(a CROSSING; shut, open: a ROAD of it, 0 .. 3)");
        for (String word : new String[] {"go", "run", "turn", "add"}) {
            Check.whole(DAY, word + " 0;");
            Check.whole(DAY, word + " 6;");
            Check.fault(DAY, word + " 7;", 2, word.length() + 1);
            Check.fault(DAY, word + " 99;", 2, word.length() + 1);
        }
        for (String word : new String[] {"shut", "open"}) {
            Check.whole(DAY, word + " 6 0;");
            Check.whole(DAY, word + " 0 3;");
            Check.fault(DAY, word + " 7 3;", 2, 5);
            Check.fault(DAY, word + " 6 4;", 2, 7);
        }
        Check.sentence("(came: the CROSSING, the INN; never: the CROSSING)");
        Check.whole(LOG, "came 0 6;");
        Check.whole(LOG, "came 6 0;");
        Check.whole(LOG, "never 6;");
        Check.fault(LOG, "came 7 0;", 2, 5);
        Check.fault(LOG, "came 0 7;", 2, 7);
        Check.fault(LOG, "never 7;", 2, 6);
    }

    private static void laterOnesStrike() {
        Check.sentence("Later ones strike (post and walkers of one CROSSING)");
        TurnedPosts x = Check.withLand("post 0 3;post 0 1;walkers 0 9;walkers 1 4;walkers 0 2;cross 0 0;cross 0 0;"
            + "post 1 1;post 0 0;post 1 0;post 0 1;walkers 1 0;");
        Check.dues("posts", c -> x.land(0, c), 20, 1, 0);
        Check.dues("walkers", c -> x.land(0, c), 30, 2, 0);
    }

    private static void furtherOnes() {
        Check.sentence("but all others, which are further ones");
        TurnedPosts x = Check.withLand("cross 0;cross 0;cross 0;inn 1;inn 1;inn 2;");
        Check.due("crossings", x.land(0, 0), 3);
        Check.due("inns", x.land(0, 1), 6);
        Check.due("day", Check.day(x, "add 0;add 0;shut 0 0;shut 0 0;add 0;"), 0);
        Check.due("deeds", x.deed(0, NONE, 0), 5);
        Check.due("log", Check.log(x, "never 0;never 0;came 0 1;came 0 1;"), 0);
        Check.due("facts", x.fact(0, NONE, 0), 4);
    }

    // ---- term 1: FAULTS ----

    private static void placesOfTheFirst() {
        Check.sentence("1 the first byte or token with which no text goes on");
        Check.fault(LAND, "!cross;", 1, 0);
        Check.fault(LAND, "cross!;", 1, 5);
        Check.fault(LAND, "cross 0 !;", 1, 8);
        Check.fault(LAND, "cross;!", 1, 6);
        Check.fault(LAND, "cross; \n !", 1, 9);
        Check.fault(LAND, "cross; walk 0;", 1, 7);
        Check.fault(LAND, "cross; 12;", 1, 7);
        Check.fault(LAND, "cross; ;", 1, 7);
        Check.fault(LAND, "inn  walkers;", 1, 5);
        Check.fault(LAND, "walk 0; cross;; ;", 1, 0);
        Check.sentence("with places (a token's first byte; the end's)");
        Check.fault(LAND, "cross", 1, 5);
        Check.fault(LAND, "cross \n", 1, 7);
        Check.fault(LAND, "cross 6 0", 1, 9);
        Check.fault(DAY, "go", 1, 2);
        Check.fault(DAY, "shut 6 ", 1, 7);
        Check.fault(LOG, "came 6", 1, 6);
    }

    private static void aLongerRow() {
        Check.sentence("(a longer row of digits is no token)");
        for (String row : new String[] {"000", "001", "123", "0000000000", "99999999999999999999"}) {
            Check.fault(LAND, "cross " + row + ";", 1, 6);
            Check.fault(LAND, "cross;post " + row + " 0;", 1, 11);
            Check.fault(LAND, "cross;walkers 0 " + row + ";", 1, 16);
            Check.fault(LAND, "cross;inn" + row + ";", 1, 9);
            Check.fault(LAND, row + ";", 1, 0);
            Check.fault(DAY, "go " + row + ";", 1, 3);
            Check.fault(DAY, "shut 0 " + row + ";", 1, 7);
            Check.fault(LOG, "never " + row + ";", 1, 6);
        }
        Check.whole(LAND, "cross 00 00;");
        Check.fault(LAND, "cross 99 99;", 2, 6);
    }

    private static void firstByPlace() {
        Check.sentence("If there is none, the first by place, of one place the least");
        Check.fault(LAND, "cross 9 0 0 0 0;!", 1, 16);
        Check.fault(DAY, "go 9;".repeat(42) + "go", 1, 212);
        Check.fault(LOG, "never 9;".repeat(10) + ";", 1, 80);
        Check.fault(LAND, "cross 0 7 0 0 0;", 2, 8);
        Check.fault(LAND, "cross 0 0 0 7 0;", 2, 12);
        Check.fault(LAND, "cross 0 0 0 0 7;", 2, 14);
        Check.fault(LAND, "cross 0 0 0 0 0 7;", 3, 14);
        Check.fault(LAND, "cross 0 0 0 0 0;cross 7;", 3, 14);
        Check.fault(LAND, "cross 7;cross 0 0 0 0 0;", 2, 6);
        Check.fault(LAND, "cross 8;cross 7;", 2, 6);
        Check.fault(LAND, "cross;post 7 4;", 2, 11);
        Check.fault(LAND, "cross;post 0 4;post 7 0;", 2, 13);
        Check.fault(LAND, "cross;walkers 9 99;", 2, 14);
        Check.fault(DAY, "shut 7 4;", 2, 5);
        Check.fault(LOG, "came 7 7;", 2, 5);
        Check.sentence("If there is none of these, at the end's place, of a LAND");
        Check.fault(LAND, "cross 6;post 0 3;inn 7;", 2, 21);
        Check.fault(LAND, "cross 6 0 0 0 0;post 0 3;", 3, 14);
        Check.fault(LAND, "cross 6;post 0 3;!", 1, 17);
        Check.fault(LAND, "cross 6;post 0 3;", 4, 17);
    }

    private static void tellsAllTheSame() {
        Check.sentence("a line with such a NUMBER tells its CROSSING, DEED, FACT all the same");
        // the 8th, 41st, 9th has a NUMBER that can't be: it is told, so there is one too many at its first token
        Check.fault(LAND, "cross;".repeat(7) + "cross 7;", 3, 42);
        Check.fault(LAND, "cross;".repeat(6) + "cross 7;", 2, 42);
        Check.fault(DAY, "go 0;".repeat(40) + "go 7;", 3, 200);
        Check.fault(DAY, "go 0;".repeat(40) + "shut 0 4;", 3, 200);
        Check.fault(DAY, "go 0;".repeat(39) + "go 7;", 2, 198);
        Check.fault(LOG, "never 0;".repeat(8) + "came 0 7;", 3, 64);
        Check.fault(LOG, "never 0;".repeat(8) + "never 7;", 3, 64);
        Check.fault(LOG, "never 0;".repeat(7) + "never 7;", 2, 62);
    }

    private static void tooMany() {
        Check.sentence("3 an 8th CROSSING, a 41st DEED, a 9th FACT, at its first token; a 5th ROAD of a CROSSING, at it");
        Check.whole(LAND, "cross;".repeat(7));
        Check.fault(LAND, "cross;".repeat(7) + " \ncross 0 0 0 0 0;", 3, 44);
        Check.fault(LAND, "cross;".repeat(7) + "inn 0; cross;cross;", 3, 49);
        Check.whole(DAY, "go0;".repeat(40));
        Check.fault(DAY, "go0;".repeat(40) + "\n\n open 0 0;add 0;", 3, 163);
        Check.whole(LOG, "never 0;".repeat(8));
        Check.fault(LOG, "never 0;".repeat(8) + "  came 0 0;never 0;", 3, 66);
        for (int before = 0; before < 7; before++) {
            String text = "cross 0 0 0 0;".repeat(before);
            Check.whole(LAND, text + "cross 0 00  0 0;");
            Check.fault(LAND, text + "cross 0 00  0 0 \n 00 0;", 3, 14 * before + 18);
        }
    }

    private static void toldOfAndNotThere() {
        Check.sentence("4 a CROSSING that was told of and is not there");
        for (int n = 0; n < 7; n++) {
            String text = "cross;".repeat(n);
            for (String line : new String[] {"cross " + (n + 1) + ";", "post " + n + " 0;", "walkers " + n + " 0;",
                "inn " + n + ";", "post " + n + " 3;post " + n + " 0;"}) {
                if (n < 6 || !line.startsWith("cross")) {
                    Check.fault(LAND, text + line, 4, text.length() + line.length());
                    Check.whole(LAND, line + text + (line.startsWith("cross") ? "cross;" : "cross 0;"));
                }
            }
        }
        Check.fault(LAND, "cross 0 0 0 1; \n", 4, 16);
        Check.fault(LAND, "cross 6;", 4, 8);
        Check.sentence("else 5 a ROAD that a POST points to");
        Check.fault(LAND, "cross;cross 2;post 0 1;", 4, 23);
        Check.fault(LAND, "post 0 3;", 4, 9);
        Check.fault(LAND, "cross;cross;cross 2;post 0 1;", 5, 29);
    }

    private static void roadsNotThere() {
        Check.sentence("5 a ROAD that a POST points to (but 0) and is not there");
        for (int roads = 0; roads <= 4; roads++) {
            for (int r = 0; r < 4; r++) {
                String text = "cross;cross" + " 0".repeat(roads) + ";post 1 " + r + ";";
                boolean isThere = r < roads || r == 0;
                Check.fault(LAND, text, isThere ? 0 : 5, isThere ? NONE : text.length());
            }
        }
        Check.fault(LAND, SIX + "cross 0;post 6 1;  ", 5, 55);
        Check.whole(LAND, "cross 0;post 0 1;post 0 0;");
        Check.fault(LAND, "cross 0;post 0 0;post 0 1;", 5, 26);
        Check.whole(LAND, "post 0 1;cross 0 0;");
        // an inn has ROADS as told, and a POST
        Check.whole(LAND, "cross 0 0;inn 0;post 0 1;");
        Check.fault(LAND, "cross 0 0;inn 0;post 0 2;", 5, 25);
    }

    private static void ofALandAlone() {
        Check.sentence("at the end's place, of a LAND");
        TurnedPosts x = new TurnedPosts();
        Check.due("a day of crossings that are not there", Check.day(x, "go 6;shut 6 3;"), 0);
        Check.due("no fault", x.fault(0), 0);
        Check.due("a log of crossings that are not there", Check.log(x, "came 6 5;never 4;"), 0);
        Check.due("no fault", x.fault(0), 0);
        Check.fault(LAND, "inn 6;", 4, 6);
    }

    private static void howManyTexts() {
        Check.sentence("LANDS, at most 2 (sort 0), DAYS, at most 2 (1), LOGS, at most 2 (2), from 0 on.");
        for (int sort = 0; sort < 3; sort++) {
            TurnedPosts x = new TurnedPosts();
            Check.due("first", x.text(sort, NONE), 0);
            Check.due("second", x.text(sort, NONE), 1);
            Check.due("third", x.text(sort, NONE), -2);
            Check.dues("count", x::count, 0, sort == 0 ? 2 : 0, sort == 1 ? 2 : 0, sort == 2 ? 2 : 0);
        }
    }

    // ---- promises 1 to 5 ----

    private static void newObject() {
        Check.sentence("No LANDS, DAYS, LOGS; no images.");
        TurnedPosts x = new TurnedPosts();
        Check.dues("count", x::count, 0, 0, 0, 0);
        Check.dues("land", i -> x.land(i, 0), 0, NONE, NONE);
        Check.dues("day", i -> x.deed(i, NONE, 0), 0, -2, -2);
        Check.dues("log", i -> x.fact(i, NONE, 0), 0, -2, -2);
        Check.dues("image", i -> x.again(i) ? 1 : 0, -1, 0, 0, 0, 0, 0);
        Check.due("tape", x.end(1), NONE);
        Check.due("fault", x.fault(0), 0);
        Check.due("place", x.fault(1), NONE);
    }

    private static void fiveHundredTwelveCalls() {
        Check.sentence("An object is used for at most 512 calls after it has been made");
        TurnedPosts x = new TurnedPosts();
        int calls = 0;
        for (int round = 0; round < 128; round++) {
            int n = round % 7 + 1;
            Check.due("feed", x.feed(0x63726f73, 0x73202020, 0x3b202020, 0x20202020, 0x20202020), 20);
            Check.due("text", x.text(0, round == 0 ? NONE : 0), 0);
            Check.due("image", n < 4 ? x.image(n - 1) : x.again(round % 3), true);
            Check.due("call", round == 127 ? x.trees(0) : x.walk(0, 0, 10), 1);
            calls += 4;
        }
        Check.due("calls", calls, 512);
    }

    private static void feed() {
        Check.sentence("twenty bytes come behind it, of each number the highest first: how many it has");
        TurnedPosts x = new TurnedPosts();
        Check.due("feed", x.feed(0x63726f73, 0x73303b69, 0x6e6e303b, 0x0a20200a, 0x20200a20), 20);
        Check.due("feed", x.feed(0x706f7374, 0x2030200a, 0x303b7761, 0x6c6b6572, 0x73302030), 40);
        Check.due("feed", x.feed(0x393b2020, -1, 0, 0, 0x80000000), 60);
        Check.due("end", x.end(41), 41);
        Check.due("feed behind 41", x.feed(0x3b202020, 0x20202020, 0x20202020, 0x20202020, 0x20202020), 61);
        Check.due("text", x.text(0, NONE), 0);
        Check.due("inns", x.land(0, 1), 1);
        Check.due("walkers", x.land(0, 30), 9);
        Check.due("feed", x.feed(-1, 0, 0, 0, 0), 20);
        Check.due("text", x.text(0, NONE), NONE);
        Check.due("place", x.fault(1), 0);
        Check.sentence("NONE, and nothing comes, if there would be more than 600.");
        for (int had = 577; had <= 584; had++) {
            TurnedPosts y = new TurnedPosts();
            Check.tape(y, " ".repeat(had));
            boolean fits = had <= 580;
            Check.due("feed on " + had, y.feed(0x21202020, 0, 0, 0, 0), fits ? had + 20 : NONE);
            Check.due("not more", y.end(fits ? had + 21 : had + 1), NONE);
            Check.due("as much", y.end(fits ? had + 20 : had), fits ? had + 20 : had);
            Check.due("text", y.text(0, NONE), fits ? NONE : 0);
            Check.due("place", y.fault(1), fits ? had : NONE);
        }
    }

    private static void end() {
        Check.sentence("The tape has its first n bytes alone: n. NONE if it has not so many, or n is below 0.");
        TurnedPosts x = new TurnedPosts();
        Check.due("0 of none", x.end(0), 0);
        Check.due("1 of none", x.end(1), NONE);
        Check.tape(x, "cross;inn 0;" + "!".repeat(8));
        Check.bounds("end", i -> i >= 0 && i <= 20 ? x.end(20) : x.end(i), 0, 20, NONE);
        Check.due("20 of 20", x.end(20), 20);
        Check.due("12 of 20", x.end(12), 12);
        Check.due("13 of 12", x.end(13), NONE);
        Check.due("-1", x.end(-1), NONE);
        Check.due("still 12", x.end(12), 12);
        Check.due("text", x.text(0, NONE), 0);
        Check.tape(x, "!".repeat(20));
        Check.due("0 of 20", x.end(0), 0);
        Check.due("1 of 0", x.end(1), NONE);
        Check.due("text of none", x.text(0, NONE), 1);
        Check.due("crossings", x.land(1, 0), 0);
    }

    private static void text() {
        Check.sentence("The tape is taken (and is empty then) as a text of a sort, a further one (at NONE), or in the place of one");
        String[] texts = {"cross;", "go 0;", "never 0;"};
        for (int sort = 0; sort < 3; sort++) {
            TurnedPosts x = new TurnedPosts();
            Check.due("further", Check.text(x, sort, NONE, texts[sort]), 0);
            Check.due("empty then", x.end(1), NONE);
            Check.due("in its place", Check.text(x, sort, 0, texts[sort] + texts[sort]), 0);
            Check.due("empty then", x.end(1), NONE);
            Check.due("count", x.count(sort), 1);
            Check.due("its lines", lines(x, sort, 0), 2);
            Check.due("further", Check.text(x, sort, NONE, texts[sort]), 1);
            Check.due("in its place", Check.text(x, sort, 1, ""), 1);
            Check.due("other lines", lines(x, sort, 0), 2);
            Check.due("its lines", lines(x, sort, 1), 0);
            Check.sentence("NONE: a FAULT.");
            Check.due("fault", Check.text(x, sort, 0, "!"), NONE);
            Check.due("empty then", x.end(1), NONE);
            Check.due("still there", lines(x, sort, 0), 2);
            Check.due("count", x.count(sort), 2);
        }
    }

    private static int lines(TurnedPosts x, int sort, int i) {
        return sort == LAND ? x.land(i, 0) : sort == DAY ? x.deed(i, NONE, 0) : x.fact(i, NONE, 0);
    }

    private static void textRefused() {
        Check.sentence("-2: there is none such, there are as many as may be, or no such sort (the tape is empty then, too; "
            + "no text is read, FAULT 0)");
        for (int sort = 0; sort < 3; sort++) {
            TurnedPosts x = new TurnedPosts();
            refused(x, sort, 0);
            Check.due("one", x.text(sort, NONE), 0);
            refused(x, sort, 1);
            Check.due("one", x.text(sort, 0), 0);
            Check.due("two", x.text(sort, NONE), 1);
            for (int at : new int[] {NONE, -2, 2, 3, Integer.MIN_VALUE, Integer.MAX_VALUE}) {
                refused(x, sort, at);
            }
            Check.due("first", x.text(sort, 0), 0);
            Check.due("second", x.text(sort, 1), 1);
        }
        TurnedPosts x = new TurnedPosts();
        for (int sort : new int[] {-1, 3, Integer.MIN_VALUE, Integer.MAX_VALUE}) {
            refused(x, sort, NONE);
            refused(x, sort, 0);
        }
        Check.due("none", x.count(0) + x.count(1) + x.count(2), 0);
    }

    /** What is on the tape would be a FAULT, and the latest text had one. */
    private static void refused(TurnedPosts x, int sort, int at) {
        Check.due("a fault ahead", Check.text(x, 0, x.count(0) == 2 ? 1 : NONE, " !"), NONE);
        Check.due("a fault ahead", x.fault(0), 1);
        Check.due("sort " + sort + " at " + at, Check.text(x, sort, at, "!"), -2);
        Check.due("fault", x.fault(0), 0);
        Check.due("place", x.fault(1), NONE);
        Check.due("empty then", x.end(1), NONE);
    }

    private static void fault() {
        Check.sentence("Of the latest text(), what 0: the FAULT, 0 without, 1: its place, NONE without. NONE for another what.");
        TurnedPosts x = new TurnedPosts();
        Check.bounds("without", i -> i == 1 ? 7 : x.fault(i), 0, 1, NONE);
        Check.due("with", Check.text(x, 0, NONE, "   cross;  7;"), NONE);
        Check.dues("with", x::fault, -2, NONE, NONE, 1, 11, NONE, NONE);
        Check.bounds("with", x::fault, 0, 1, NONE);
        Check.due("other calls are none", x.land(0, 0) + x.count(9), -3);
        Check.dues("with", x::fault, 0, 1, 11);
        Check.due("then without", Check.text(x, 2, NONE, "never 0;"), 0);
        Check.dues("without", x::fault, 0, 0, NONE);
    }

    // ---- promises 6, 7, 19, 34 to 36 ----

    private static void land() {
        Check.sentence("NONE: there is none such (of any), or for another what.");
        TurnedPosts x = Check.withLand("cross 1 0 1;cross 1;inn 1;post 0 2;walkers 1 7;");
        Check.due("second", Check.land(x, SIX + "cross 6 6 6 6;post 6 3;walkers 6 1;inn 0;"), 1);
        for (int what : new int[] {0, 1, 10, 20, 30, 100}) {
            Check.bounds("land, what " + what, i -> x.land(i, what == 100 && i == 1 ? 160 : what), 0, 1, NONE);
        }
        int[][] first = {{2, 2}, {}, {3, 1}, {2, 0}, {0, 7}};
        int[][] leads = {{1, 0, 1}, {1}};
        for (int what = -100; what < 300; what++) {
            int c = what % 10;
            int due = NONE;
            if (what >= 0 && what < 2) {
                due = first[0][what];
            } else if (what >= 10 && what < 40 && c < 2) {
                due = first[what / 10 + 1][c];
            } else if (what >= 100 && what < 120 && c < leads[what / 10 - 10].length) {
                due = leads[what / 10 - 10][c];
            }
            Check.due("land " + what, x.land(0, what), due);
        }
        Check.bounds("roads", i -> x.land(1, i), 10, 16, NONE);
        Check.bounds("posts", i -> x.land(1, i), 20, 26, NONE);
        Check.bounds("walkers", i -> x.land(1, i), 30, 36, NONE);
        Check.bounds("leads", i -> x.land(1, i), 160, 163, NONE);
        Check.due("8th crossing", x.land(1, 170), NONE);
    }

    private static void deed() {
        Check.sentence("1, 2: its numbers (NONE without). -2: there is none such (of either), or for another what.");
        TurnedPosts x = new TurnedPosts();
        Check.due("day", Check.day(x, "go 6;run 5;turn 4;add 3;shut 2 0;open 1 3;"), 0);
        Check.due("no second", x.deed(1, NONE, 0), -2);
        Check.due("day", Check.day(x, ""), 1);
        Check.bounds("day", i -> x.deed(i, NONE, 0), 0, 1, -2);
        Check.due("none in it", x.deed(1, NONE, 0), 0);
        Check.due("none in it", x.deed(1, 0, 0), -2);
        for (int what = 0; what < 3; what++) {
            int of = what;
            Check.bounds("deed, what " + of, k -> k == NONE ? -2 : x.deed(0, k, of), 0, 5, -2);
        }
        Check.dues("kinds", k -> x.deed(0, k, 0), 0, 0, 1, 2, 3, 4, 5);
        Check.dues("crossings", k -> x.deed(0, k, 1), 0, 6, 5, 4, 3, 2, 1);
        Check.dues("roads", k -> x.deed(0, k, 2), 0, NONE, NONE, NONE, NONE, 0, 3);
        Check.bounds("what", what -> x.deed(0, 5, what), 0, 2, -2);
        Check.bounds("what of how many", what -> x.deed(0, NONE, what), 0, 0, -2);
        Check.due("deed -2", x.deed(0, -2, 0), -2);
    }

    private static void fact() {
        Check.sentence("of FACT k, what 0: the CROSSING, 1: the INN (NONE: never). -2: there is none such (of either), or for another what.");
        TurnedPosts x = new TurnedPosts();
        Check.due("log", Check.log(x, "came 6 0;never 0;came 0 6;"), 0);
        Check.due("no second", x.fact(1, NONE, 0), -2);
        Check.due("log", Check.log(x, ""), 1);
        Check.bounds("log", i -> x.fact(i, NONE, 0), 0, 1, -2);
        Check.due("none in it", x.fact(1, NONE, 0), 0);
        Check.due("none in it", x.fact(1, 0, 0), -2);
        Check.bounds("fact, what 0", k -> k == NONE ? -2 : x.fact(0, k, 0), 0, 2, -2);
        Check.bounds("fact, what 1", k -> x.fact(0, k, 1), 0, 2, -2);
        Check.dues("crossings", k -> x.fact(0, k, 0), 0, 6, 0, 0);
        Check.dues("inns", k -> x.fact(0, k, 1), 0, 0, NONE, 6);
        Check.bounds("what", what -> x.fact(0, 1, what), 0, 1, -2);
        Check.bounds("what of how many", what -> x.fact(0, NONE, what), 0, 0, -2);
        Check.due("fact -2", x.fact(0, -2, 0), -2);
    }

    private static void count() {
        Check.sentence("How many there are of a sort. -2 for another one.");
        TurnedPosts x = new TurnedPosts();
        Check.bounds("none", x::count, 0, 2, -2);
        for (int n = 0; n < 2; n++) {
            Check.dues("each", x::count, -1, -2, n, n, n, -2);
            Check.due("one more of each", Check.land(x, "") + Check.day(x, "") + Check.log(x, ""), 3 * n);
        }
        Check.dues("each", x::count, -1, -2, 2, 2, 2, -2);
        Check.bounds("two", x::count, 0, 2, -2);
    }

    private static void image() {
        Check.sentence("Image k (0 .. 2) is all that is told (the tape, the FAULT, too), as it is now: true; false for another k.");
        TurnedPosts x = new TurnedPosts();
        Check.bounds("image", k -> x.image(k) ? 1 : 0, 0, 2, 0);
        Check.due("image 1", x.image(1), true);
        TurnedPosts y = Check.withLand("cross 0 0;cross;inn 1;post 0 1;walkers 1 5;");
        Check.due("day", Check.day(y, "shut 6 2;"), 0);
        Check.due("log", Check.log(y, "came 5 4;"), 0);
        Check.due("fault", Check.log(y, "came 5 9;"), NONE);
        Check.tape(y, "go 3;");
        Check.due("image", y.image(2), true);
        Check.due("the tape stays", y.text(1, 0), 0);
        Check.due("others", Check.text(y, 0, 0, "") + Check.text(y, 2, 0, "") + Check.land(y, "cross;"), 1);
        Check.due("others", Check.day(y, "") + Check.log(y, ""), 2);
        Check.tape(y, "!!");
        Check.due("again", y.again(2), true);
        Check.dues("count", y::count, 0, 1, 1, 1);
        Check.dues("land", i -> y.land(0, i), 0, 2, 2);
        Check.dues("roads", i -> y.land(0, i), 10, 2, 0);
        Check.dues("post", i -> y.land(0, i), 20, 1, 0);
        Check.dues("walkers", i -> y.land(0, i), 30, 0, 5);
        Check.dues("leads", i -> y.land(0, i), 100, 0, 0, NONE);
        Check.dues("deed", what -> y.deed(0, 0, what), 0, 4, 6, 2);
        Check.dues("fact", what -> y.fact(0, 0, what), 0, 5, 4);
        Check.dues("fault", y::fault, 0, 2, 7);
        Check.due("no longer tape", y.end(6), NONE);
        Check.due("the tape", y.text(1, 0), 0);
        Check.dues("deed", what -> y.deed(0, 0, what), 0, 0, 3, NONE);
    }

    private static void again() {
        Check.sentence("All that is as image k has it (other images stay): true; false if there is none such.");
        TurnedPosts x = new TurnedPosts();
        for (int k = 0; k < 3; k++) {
            Check.due("none " + k, x.again(k), false);
            Check.due("land", Check.text(x, 0, k == 0 ? NONE : 0, "cross;".repeat(k + 1)), 0);
            Check.due("image " + k, x.image(k), true);
            Check.dues("those there are", i -> x.again(i) ? 1 : 0, -1, 0, 1, k > 0 ? 1 : 0, k > 1 ? 1 : 0, 0);
            Check.due("back to it", x.again(k), true);
        }
        Check.bounds("again", k -> x.again(k) ? 1 : 0, 0, 2, 0);
        for (int k : new int[] {2, 0, 1, 1, 2, 0}) {
            Check.due("again " + k, x.again(k), true);
            Check.due("as then", x.land(0, 0), k + 1);
        }
        Check.due("image 0 of image 1's", x.again(1) && x.image(0), true);
        Check.dues("as then", k -> x.again(k) ? x.land(0, 0) : 0, 0, 2, 2, 3);
        Check.due("false changes nothing", x.again(3), false);
        Check.due("still", x.land(0, 0), 3);
    }
}
