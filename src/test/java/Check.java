/** Compares answers with those that are due, and tells texts to the tape. */
final class Check {
    private static int wrong = 0;
    private static int asked = 0;

    private Check() {
    }

    static void due(String what, long got, long want) {
        asked++;
        if (got != want) {
            wrong++;
            if (wrong <= 50) {
                System.out.println(what + " answered " + got + ", due is " + want);
            }
        }
    }

    static void due(String what, boolean got, boolean want) {
        due(what, got ? 1 : 0, want ? 1 : 0);
    }

    /** Puts a text on the tape (which is empty), each character as a byte. */
    static void tape(TurnedPosts x, String text) {
        int length = 0;
        for (int at = 0; at < text.length(); at += 20) {
            int[] five = new int[5];
            for (int i = 0; i < 20; i++) {
                int b = at + i < text.length() ? text.charAt(at + i) & 255 : 0;
                five[i / 4] = five[i / 4] << 8 | b;
            }
            length = x.feed(five[0], five[1], five[2], five[3], five[4]);
        }
        if (length > text.length()) {
            x.end(text.length());
        }
    }

    static int text(TurnedPosts x, int sort, int at, String text) {
        tape(x, text);
        return x.text(sort, at);
    }

    static int land(TurnedPosts x, String text) {
        return text(x, 0, TurnedPosts.NONE, text);
    }

    static int day(TurnedPosts x, String text) {
        return text(x, 1, TurnedPosts.NONE, text);
    }

    static int log(TurnedPosts x, String text) {
        return text(x, 2, TurnedPosts.NONE, text);
    }

    /** A new object with one LAND. */
    static TurnedPosts withLand(String text) {
        TurnedPosts x = new TurnedPosts();
        due("land of " + text, land(x, text), 0);
        return x;
    }

    static void done(String test) {
        System.out.println(test + ": " + asked + " answers, " + wrong + " not as due");
        if (wrong != 0) {
            System.exit(1);
        }
    }
}
