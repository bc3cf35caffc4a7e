import java.lang.management.ManagementFactory;

/** What one object makes in its 512 calls, and how deep its calls go, with the dearest texts. */
public final class RoomTest {
    private static final long MOST_BYTES = 4_000_000;
    private static final int CALLS = 18;
    private static int wrong = 0;

    public static void main(String[] args) throws InterruptedException {
        room();
        room();
        again();
        longValue();
        deep();
        System.out.println(wrong == 0 ? "all is small" : wrong + " are too great");
        if (wrong != 0) {
            System.exit(1);
        }
    }

    private static long made() {
        return ((com.sun.management.ThreadMXBean) ManagementFactory.getThreadMXBean())
                .getThreadAllocatedBytes(Thread.currentThread().getId());
    }

    private static void room() {
        String nine = "\\x.{A=x|{B=x|{C=x|{D=x|{E=x|{F=x|{G=x|{H=x|{}}}}}}}}}";
        String same = "\\x.\\y.\\f.{A=(fx)|{B=(fy)|{}}}";
        long before = made();
        RowTypes x = new RowTypes();
        long fresh = made() - before;
        Talk.defines(x, nine);
        Talk.defines(x, same);
        Talk.defines(x, "\\x.\\y.1");
        Talk.defines(x, "\\f.\\x.(f(fx))");
        Talk.defines(x, "\\x.x");
        int[] texts = {0, 0};
        String[] dear = {
            "?<A1>[Ax.1;Bb.?<A1>[Ay.1;Be.((r((qb)(pe)))((qe)(p1)))]]",
            "\\a.\\b.\\c.\\d.((r((qa)(pb)))((r((qb)(pc)))((qc)(pd))))",
            "(((((ss)s)s)t)1)",
            "&".repeat(49) + "p".repeat(50),
            "~AB".concat("~BA~AB".repeat(16)) + "t"};
        for (int i = 0; i < 80; i++) {
            texts[Talk.infers(x, dear[i % dear.length]) > 0 ? 1 : 0]++;
            x.steps(-1);
            x.value(-1, -1);
            x.part(-1, i);
            x.meets(-1, 0);
            x.applies(-1, 1);
        }
        long all = made() - before;
        if (all > MOST_BYTES || fresh > 400_000) {
            wrong++;
            System.out.println("made " + fresh + " bytes when new, " + all + " bytes in all; texts " + texts[1]);
        }
    }

    /** Rows are used again: what was asked once makes nothing more when it is asked again. */
    private static void again() {
        RowTypes x = new RowTypes();
        String[] texts = {"\\r.$x=#Ar;$x=#Br;$x=#Cr;$x=#Dr;$x=#Er;$x=#Fr;$x=#Gr;#Hr", "{A=1|{}}", "\\r.#Ar"};
        for (String s : texts) {
            Talk.defines(x, s);
        }
        Talk.infers(x, "(r{A=q|{}})");
        for (int call = 0; call < CALLS; call++) {
            ask(x, call);
        }
        for (int call = 0; call < CALLS; call++) {
            long before = made();
            for (int i = 0; i < 25; i++) {
                ask(x, call);
            }
            long more = made() - before;
            if (more > 1000) {
                wrong++;
                System.out.println("call " + call + " makes " + more + " bytes more when it is made again");
            }
        }
    }

    /** A value of fifty million signs is not written out to tell one of them. */
    private static void longValue() {
        RowTypes x = new RowTypes();
        for (String s : ValuesTest.DOUBLING) {
            Talk.defines(x, s);
        }
        Talk.infers(x, "(s".repeat(22) + "0" + ")".repeat(22));
        x.steps(-1);
        long before = made();
        long signs = 0;
        for (int i = 0; i < 400; i++) {
            signs += x.value(-1, i % 2 == 0 ? -1 : i * 100_000);
        }
        long more = made() - before;
        if (more > 1000 || signs < 200L * 50_331_637) {
            wrong++;
            System.out.println("a long value makes " + more + " bytes");
        }
    }

    private static int ask(RowTypes x, int call) {
        switch (call) {
            case 0: return x.size(0);
            case 1: return x.type(0, -1);
            case 2: return x.sort(0);
            case 3: return x.needs(0);
            case 4: return x.side(0, 0);
            case 5: return x.closes(0);
            case 6: return x.above(0, 0);
            case 7: return x.meets(0, 0);
            case 8: return x.applies(2, 1);
            case 9: return x.part(0, 0);
            case 10: return x.steps(-1);
            case 11: return x.value(-1, 0) + x.taken(-1, 0);
            case 12: return x.parts(0) + x.often(0, 0) + x.free(0);
            case 13: return x.sign(0x49000000) + (x.end(1) ? 1 : 0) + x.fits(0);
            case 14: return x.sign(0x7B413A7B) + x.fits(0);
            case 15: return x.sign(0x5C782E78) + x.infers();
            case 16: return x.sign(0x28282828) + x.infers();
            default: return x.sign(0x5C782E78) + x.defines() + x.forgets(3);
        }
    }

    /** The deepest texts must do with a small stack. */
    private static void deep() throws InterruptedException {
        boolean[] done = {false};
        Thread thread = new Thread(null, () -> {
            RowTypes x = new RowTypes();
            Talk.defines(x, "{A=1|{}}");
            for (String s : new String[] {"&".repeat(49) + "p".repeat(50), "#A".repeat(49) + "p", "&".repeat(100),
                    "(".repeat(100), "\\x.".repeat(33) + "x", "~AB".concat("~BA~AB".repeat(15)) + "p"}) {
                Talk.infers(x, s);
                x.steps(-1);
                x.free(-1);
                Talk.fits(x, -1, s);
            }
            done[0] = true;
        }, "deep", 150_000);
        thread.start();
        thread.join();
        if (!done[0]) {
            wrong++;
            System.out.println("too deep");
        }
    }
}
