import java.util.function.IntUnaryOperator;

/** Compares answers with those that are due, and tells texts to the tape. */
final class Check {
    private static int wrong = 0;
    private static int asked = 0;
    private static String sentence = "";

    private Check() {
    }

    /** The sentence of the document that the answers from here on are asked for; .. where words are left out. */
    static void sentence(String words) {
        sentence = words;
    }

    static void due(String what, long got, long want) {
        asked++;
        if (got != want) {
            wrong++;
            if (wrong <= 50) {
                System.out.println(what + " answered " + got + ", due is " + want
                    + (sentence.isEmpty() ? "" : " (\"" + sentence + "\")"));
            }
        }
    }

    static void due(String what, boolean got, boolean want) {
        due(what, got ? 1 : 0, want ? 1 : 0);
    }

    /** All of a row of answers, from a number on. */
    static void dues(String what, IntUnaryOperator call, int from, int... wants) {
        for (int i = 0; i < wants.length; i++) {
            due(what + " " + (from + i), call.applyAsInt(from + i), wants[i]);
        }
    }

    /** A call answers from low to high, and refuses next to these and far off. */
    static void bounds(String what, IntUnaryOperator call, int low, int high, int refused) {
        for (int i : new int[] {low - 1, high + 1, Integer.MIN_VALUE, Integer.MAX_VALUE}) {
            due(what + " " + i, call.applyAsInt(i), refused);
        }
        for (int i : new int[] {low, high}) {
            int answer = call.applyAsInt(i);
            due(what + " " + i + " answers (" + answer + ")", answer != refused, true);
        }
    }

    /** Puts a text on the tape (which is empty), each character as a byte. */
    static void tape(TurnedPosts x, String text) {
        int length = 0;
        for (int at = 0; at < text.length(); at += 20) {
            int[] five = new int[5];
            for (int i = 0; i < 20; i++) {
                int b = at + i < text.length() ? text.charAt(at + i) & 255 : 0;
                five[i / 4] = five[i / 4] << 8 | b;
            }
            length = x.feed(five[0], five[1], five[2], five[3], five[4]);
        }
        if (length > text.length()) {
            x.end(text.length());
        }
    }

    static int text(TurnedPosts x, int sort, int at, String text) {
        tape(x, text);
        return x.text(sort, at);
    }

    static int land(TurnedPosts x, String text) {
        return text(x, 0, TurnedPosts.NONE, text);
    }

    static int day(TurnedPosts x, String text) {
        return text(x, 1, TurnedPosts.NONE, text);
    }

    static int log(TurnedPosts x, String text) {
        return text(x, 2, TurnedPosts.NONE, text);
    }

    /** A new object with one LAND. */
    static TurnedPosts withLand(String text) {
        TurnedPosts x = new TurnedPosts();
        due("land of " + text, land(x, text), 0);
        return x;
    }

    static TurnedPosts withDay(String land, String day) {
        TurnedPosts x = withLand(land);
        due("day " + day, day(x, day), 0);
        return x;
    }

    static TurnedPosts withLog(String land, String log) {
        TurnedPosts x = withLand(land);
        due("log " + log, log(x, log), 0);
        return x;
    }

    /** A text told to a new object: its FAULT and the place of it; 0 and NONE, if there is none. */
    static void fault(int sort, String text, int fault, int place) {
        TurnedPosts x = new TurnedPosts();
        due("text " + text, text(x, sort, TurnedPosts.NONE, text), fault == 0 ? 0 : TurnedPosts.NONE);
        due("fault of " + text, x.fault(0), fault);
        due("place of " + text, x.fault(1), place);
        due("count behind " + text, x.count(sort), fault == 0 ? 1 : 0);
    }

    /** A text told to a new object that has no FAULT. */
    static void whole(int sort, String text) {
        fault(sort, text, 0, TurnedPosts.NONE);
    }

    static void done(String test) {
        System.out.println(test + ": " + asked + " answers, " + wrong + " not as due");
        if (wrong != 0) {
            System.exit(1);
        }
    }
}
