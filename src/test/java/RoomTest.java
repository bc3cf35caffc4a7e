import java.lang.management.ManagementFactory;

/** What one object makes in its 512 calls, and how deep its calls go, with the dearest texts. */
public final class RoomTest {
    private static final long MOST_BYTES = 4_000_000;
    private static int wrong = 0;

    public static void main(String[] args) throws InterruptedException {
        room();
        room();
        deep();
        System.out.println(wrong == 0 ? "all is small" : wrong + " are too great");
        if (wrong != 0) {
            System.exit(1);
        }
    }

    private static long made() {
        return ((com.sun.management.ThreadMXBean) ManagementFactory.getThreadMXBean())
                .getThreadAllocatedBytes(Thread.currentThread().getId());
    }

    private static void room() {
        String nine = "\\x.{A=x|{B=x|{C=x|{D=x|{E=x|{F=x|{G=x|{H=x|{}}}}}}}}}";
        String same = "\\x.\\y.\\f.{A=(fx)|{B=(fy)|{}}}";
        long before = made();
        RowTypes x = new RowTypes();
        long fresh = made() - before;
        Talk.defines(x, nine);
        Talk.defines(x, same);
        Talk.defines(x, "\\x.\\y.1");
        Talk.defines(x, "\\f.\\x.(f(fx))");
        Talk.defines(x, "\\x.x");
        int[] texts = {0, 0};
        String[] dear = {
            "?<A1>[Ax.1;Bb.?<A1>[Ay.1;Be.((r((qb)(pe)))((qe)(p1)))]]",
            "\\a.\\b.\\c.\\d.((r((qa)(pb)))((r((qb)(pc)))((qc)(pd))))",
            "(((((ss)s)s)t)1)",
            "&".repeat(49) + "p".repeat(50),
            "~AB".concat("~BA~AB".repeat(16)) + "t"};
        for (int i = 0; i < 80; i++) {
            texts[Talk.infers(x, dear[i % dear.length]) > 0 ? 1 : 0]++;
            x.steps(-1);
            x.value(-1, -1);
            x.part(-1, i);
            x.meets(-1, 0);
            x.applies(-1, 1);
        }
        long all = made() - before;
        if (all > MOST_BYTES || fresh > 400_000) {
            wrong++;
            System.out.println("made " + fresh + " bytes when new, " + all + " bytes in all; texts " + texts[1]);
        }
    }

    /** The deepest texts must do with a small stack. */
    private static void deep() throws InterruptedException {
        boolean[] done = {false};
        Thread thread = new Thread(null, () -> {
            RowTypes x = new RowTypes();
            Talk.defines(x, "{A=1|{}}");
            for (String s : new String[] {"&".repeat(49) + "p".repeat(50), "#A".repeat(49) + "p", "&".repeat(100),
                    "(".repeat(100), "\\x.".repeat(33) + "x", "~AB".concat("~BA~AB".repeat(15)) + "p"}) {
                Talk.infers(x, s);
                x.steps(-1);
                x.free(-1);
                Talk.fits(x, -1, s);
            }
            done[0] = true;
        }, "deep", 150_000);
        thread.start();
        thread.join();
        if (!done[0]) {
            wrong++;
            System.out.println("too deep");
        }
    }
}
