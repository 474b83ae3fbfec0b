import java.lang.management.ManagementFactory;

/** Looks at how much room the dearest runs of 512 calls take: one room of 7.3 million elements holds each of them. */
public final class RoomTest {
    private static final String ROW = "cross 0 1 2 3;cross 4 5 6 0;cross 1 2 3 4;cross 5 6 0 1;cross 2 3 4 5;";

    public static void main(String[] args) {
        long most = 0;
        for (int kind = 0; kind < 4; kind++) {
            run(kind);
            long before = allocated();
            run(kind);
            most = Math.max(most, allocated() - before);
        }
        System.out.println("the dearest run takes " + most + " bytes");
        // four bytes an element; a fourth of the room for all that a run makes
        Check.due("room " + most, most < 7_300_000L, true);
        Check.done("RoomTest");
    }

    private static long allocated() {
        return ((com.sun.management.ThreadMXBean) ManagementFactory.getThreadMXBean())
            .getThreadAllocatedBytes(Thread.currentThread().getId());
    }

    private static final int[] TAPE = new int[100];

    private static int fill(String text) {
        for (int i = 0; i < TAPE.length; i++) {
            TAPE[i] = 0;
            for (int k = 0; k < 4; k++) {
                int at = 4 * i + k;
                TAPE[i] = TAPE[i] << 8 | (at < text.length() ? text.charAt(at) : 32);
            }
        }
        return (text.length() + 19) / 20 * 5;
    }

    private static final String[] LANDS = {
        ROW + "cross 6 6 5 5;cross 0 0 0 0;",
        ROW + "cross 6 6 5 5;cross;inn 6;",
        "cross 1;cross;inn 1;",
        "cross 0 1 1;cross 0 1 1;cross 0 1 1;cross 0 1 1;cross 0 1 1;",
    };

    private static void run(int kind) {
        if (kind < 3) {
            runOfDearCalls(kind);
        } else {
            runOfGrowingLands();
        }
    }

    /** Every call is one that works out much, and every so often a text comes in place of one. */
    private static void runOfDearCalls(int kind) {
        TurnedPosts x = new TurnedPosts();
        tell(x, 0, TurnedPosts.NONE, LANDS[kind]);
        tell(x, 0, TurnedPosts.NONE, LANDS[kind + 1]);
        tell(x, 1, TurnedPosts.NONE, "run 0;run 1;run 2;");
        tell(x, 2, TurnedPosts.NONE, "never 0;");
        for (int i = 0; i < 24; i++) {
            tell(x, 0, i % 2, LANDS[(i + i / 3) % 4]);
            x.image(i % 3);
            x.fits(0, 0, 1);
            x.fits(1, 0, 1);
            x.lot(1, 0, 6, true);
            x.mean(0, 0, true);
            x.game(1, 0, 3, true);
            x.trees(1);
            x.period(0, 0, false);
            x.state(0, 0, 3, 0);
            x.cover(1, 0, 3);
            x.keys(1, 0, true);
            x.again(i % 3);
        }
    }

    /** Each land has twice as many ways as the one before it, so that whatever is made for them grows by and by. */
    private static void runOfGrowingLands() {
        TurnedPosts x = new TurnedPosts();
        tell(x, 2, TurnedPosts.NONE, "");
        for (int land = 0; land < 2; land++) {
            tell(x, 0, TurnedPosts.NONE, "");
            for (int twos = 0; twos <= 14; twos++) {
                tell(x, 0, land, GROWING[twos]);
                x.fits(land, 0, 0);
            }
        }
    }

    private static final String[] GROWING = growing();

    private static String[] growing() {
        String[] lands = new String[15];
        for (int twos = 0; twos < lands.length; twos++) {
            StringBuilder land = new StringBuilder();
            for (int c = 0; c < 7; c++) {
                int roads = 1 << Math.max(0, Math.min(2, twos - 2 * c));
                land.append("cross 0 0 0 0".substring(0, 5 + 2 * roads)).append(';');
            }
            lands[twos] = land.toString();
        }
        return lands;
    }

    private static void tell(TurnedPosts x, int sort, int at, String text) {
        int numbers = fill(text);
        for (int i = 0; i < numbers; i += 5) {
            x.feed(TAPE[i], TAPE[i + 1], TAPE[i + 2], TAPE[i + 3], TAPE[i + 4]);
        }
        x.text(sort, at);
    }
}
