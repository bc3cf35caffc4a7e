import java.util.NoSuchElementException;
import java.util.Random;
import java.util.TreeMap;

/** Runs of random calls: RowTypes must answer what Model answers, and tell the same ROW. */
public final class ModelTest {
    private static int wrong = 0;
    private static final TreeMap<String, Integer> seen = new TreeMap<>();

    public static void main(String[] args) {
        int runs = args.length > 0 ? Integer.parseInt(args[0]) : 3000;
        long seed = args.length > 1 ? Long.parseLong(args[1]) : 1;
        for (int i = 0; i < runs && wrong < 3; i++) {
            new Run(seed * 1000003 + i).go();
        }
        for (String must : new String[] {"infers", "infers -1000", "infers -2000", "infers -3000", "infers -4000",
                "infers -5000", "infers -6000", "infers -7000", "infers sign", "defines -300", "part", "part -7000",
                "meets", "meets -2000", "meets -3000", "meets -5000", "meets -4000", "meets -7000", "applies -7000",
                "fits 0", "fits 1", "fits sign", "above 1 1", "above 1 0", "above 0 1", "above 0 0",
                "steps -2", "steps 0", "steps 1", "steps 2", "steps 3", "taken -3", "needs 0", "needs 1",
                "lying", "lying NOTHING", "lying with NOTHING in it", "THE ANSWER of SIZE 60", "more than 26 variables",
                "more than 52 variables", "all eight labels", "$ within a function", "$ within a branch", "made again"}) {
            if (!seen.containsKey(must) && runs >= 3000) {
                wrong++;
                System.out.println("never came: " + must);
            }
        }
        if (args.length > 0) {
            System.out.println(seen);
        }
        System.out.println(wrong == 0 ? "all answers are as due" : wrong + " answers are not as due");
        if (wrong != 0) {
            System.exit(1);
        }
    }

    private static void note(String what) {
        seen.merge(what, 1, Integer::sum);
    }

    private static final class Run {
        static final int NEITHER = 6;
        final long seed;
        final Random random;
        final Maker maker;
        final RowTypes x = new RowTypes();
        final Model m = new Model();
        final StringBuilder log = new StringBuilder();
        boolean off;
        boolean strong;
        boolean hard;
        boolean great;
        boolean forgotten;

        Run(long seed) {
            this.seed = seed;
            random = new Random(seed);
            maker = new Maker(seed + 17);
        }

        void go() {
            hard = random.nextInt(5) == 0;
            strong = !hard && random.nextBoolean();
            for (int i = 0; hard && i < Maker.HARD.length; i++) {
                tell(Maker.HARD[i]);
                due("defines", x.defines(), m.defines());
            }
            int other = hard || strong ? NEITHER : random.nextInt(6);
            if (other < 2) {
                goTwisted();
                return;
            }
            if (other == 2) {
                goLying();
                return;
            }
            great = other == 3;
            for (int i = 0; great && i < Maker.HUGE.length; i++) {
                tell(Maker.HUGE[i]);
                due("defines", x.defines(), m.defines());
            }
            for (int i = 0; strong && i < 5; i++) {
                tell(maker.strong());
                due("defines", x.defines(), m.defines());
            }
            for (int i = 0; i < 40 && !off; i++) {
                step();
                compareState();
            }
        }

        /** Types of rows within rows of the same END, of all parts, and held against one another. */
        void goTwisted() {
            for (int i = 0; i < 8 && !off; i++) {
                tell("\\r.\\s." + maker.twistedRecord());
                due("defines", x.defines(), m.defines());
            }
            for (int i = 0; i < 8 && !off; i++) {
                tell(maker.twisted());
                int r = m.infers();
                due("infers", x.infers(), r);
                note(r > 0 ? "twisted" : "twisted " + r / 1000 * 1000);
                for (int place = 0; r > 0 && place < 100; place++) {
                    due("part -1 " + place, x.part(-1, place), m.part(-1, place));
                    compareAnswer();
                }
            }
            for (int a = 0; a < 8 && !off; a++) {
                inner(a);
                compareAnswer();
                x.closes(-2);
                m.closes(-2);
                String told = told();
                for (int b = 0; b < 8; b++) {
                    inner(b);
                    // The type of a, closed, is told; that of a is a side of a definition.
                    tell(told.length() > 100 ? "{}" : told);
                    due("fits -2", x.fits(-2), m.fits(-2));
                }
            }
            for (int k = 0; k < 30 && !off; k++) {
                compareInner(random.nextInt(8), random.nextInt(8));
            }
        }

        /** Two records: one is THE ANSWER, the other one is the type of IT, whose END is nothing. */
        void compareInner(int a, int b) {
            tell(maker.twistedRecord().replace("r", "{}").replace("s", "{A=1|{}}"));
            due("infers", x.infers(), m.infers());
            inner(a);
            int r = m.above(-2, -1);
            due("above -2 -1", x.above(-2, -1), r);
            compareRow();
            due("meets -2 -1", x.meets(-2, -1), m.meets(-2, -1));
            compareAnswer();
            inner(b);
            due("meets -1 -2", x.meets(-1, -2), m.meets(-1, -2));
            compareAnswer();
        }

        /** THE ANSWER becomes the record that a definition goes to. */
        void inner(int k) {
            due("side " + k + " 1", x.side(k, 1), m.side(k, 1));
            due("side -2 1", x.side(-2, 1), m.side(-2, 1));
        }

        /** Values that have other fields than their types. */
        void goLying() {
            for (String liar : Maker.LIARS) {
                tell(liar);
                due("defines", x.defines(), m.defines());
            }
            for (int i = 0; i < 60 && !off; i++) {
                tell(maker.lying());
                int r = m.infers();
                due("infers", x.infers(), r);
                if (r > 0) {
                    askValues(-1);
                    note(m.steps(-1) > 0 && m.row(0) == -1 ? "lying NOTHING"
                            : m.value(-1, -1) == -1 ? "lying with NOTHING in it" : "lying");
                }
            }
        }

        void due(String call, long got, long want) {
            if (off) {
                return;
            }
            if (!call.matches("(sign|end|row|count|type|value|lacks).*") || got != want) {
                log.append(call).append(" -> ").append(got).append('\n');
            }
            if (got != want) {
                off = true;
                wrong++;
                System.out.println("seed " + seed + ":\n" + log + "due is " + want);
            }
        }

        void tell(String text) {
            log.append("told ").append(text).append('\n');
            x.end(0);
            m.end(0);
            for (int i = 0; i < text.length(); i += 4) {
                int v = Talk.four(text, i);
                due("sign", x.sign(v), m.sign(v));
            }
            due("end", x.end(text.length()) ? 1 : 0, m.end(text.length()) ? 1 : 0);
        }

        String newText(int most) {
            int n = m.definitions.size();
            if (hard && random.nextInt(3) > 0) {
                return maker.hard();
            }
            if (great && random.nextInt(4) > 0) {
                String s = random.nextBoolean() ? maker.huge() : maker.great();
                return s.length() > most ? s.substring(0, most) : s;
            }
            return strong && random.nextInt(3) > 0 ? maker.calls(n, most) : maker.expression(n, most);
        }

        int anyOne() {
            int k = random.nextInt(12);
            return k < 4 ? -1 : k < 6 ? -2 : k == 6 ? random.nextInt(14) - 4 : random.nextInt(1 + m.definitions.size());
        }

        void step() {
            int what = random.nextInt(30);
            if (what < 5) {
                tell(newText(100));
                int r = m.infers();
                due("infers", x.infers(), r);
                note(r > 0 ? "infers" : r > -1000 ? "infers sign" : "infers " + r / 1000 * 1000);
                if (r > 0) {
                    noteText(m.it.ex, false, false);
                }
            } else if (what < 9) {
                tell(newText(60));
                int r = m.defines();
                due("defines", x.defines(), r);
                if (r >= 0 && forgotten) {
                    note("made again");
                }
                note(r >= 0 ? "defines" : r == -300 ? "defines -300" : r > -1000 ? "defines sign" : "defines fault");
            } else if (what == 9 && random.nextInt(6) == 0) {
                int k = random.nextInt(11) - 1;
                int r = m.forgets(k);
                due("forgets " + k, x.forgets(k), r);
                forgotten |= r > 0;
            } else if (what < 13) {
                askTypes();
            } else if (what < 17) {
                makeAnswer();
            } else if (what < 21) {
                compareTypes();
            } else if (what < 24) {
                askValues(anyOne());
            } else {
                askTexts();
            }
        }

        void askTypes() {
            int w = anyOne();
            due("size " + w, x.size(w), m.size(w));
            compareRow();
            int n = m.type(w, -1);
            for (int i = -2; i <= n; i++) {
                due("type " + w + " " + i, x.type(w, i), m.type(w, i));
            }
            for (int k = -1; k < 6; k++) {
                due("lacks " + w + " " + k, x.lacks(w, k), m.lacks(w, k));
            }
            due("sort " + w, x.sort(w), m.sort(w));
            compareRow();
            int r = m.needs(w);
            due("needs " + w, x.needs(w), r);
            note("needs " + r);
        }

        void makeAnswer() {
            int w = anyOne();
            switch (random.nextInt(4)) {
                case 0: {
                    int label = random.nextInt(5) - 1;
                    due("field " + w + " " + label, x.field(w, label), m.field(w, label));
                    break;
                }
                case 1: {
                    int side = random.nextInt(4) - 1;
                    due("side " + w + " " + side, x.side(w, side), m.side(w, side));
                    break;
                }
                case 2: due("closes " + w, x.closes(w), m.closes(w)); break;
                default: {
                    int place = great ? 19 : random.nextInt(random.nextBoolean() ? 100 : 20) - 1;
                    int r = m.part(w, place);
                    due("part " + w + " " + place, x.part(w, place), r);
                    note(r >= 0 ? "part" : "part " + r);
                }
            }
        }

        void compareTypes() {
            int a = anyOne(), b = anyOne();
            switch (random.nextInt(4)) {
                case 0: {
                    String t = maker.type(0);
                    if (random.nextInt(2) == 0) {
                        due("closes " + a, x.closes(a), m.closes(a));
                        t = m.count(2) == 1 ? told() : t;
                    }
                    if (random.nextInt(5) == 0) t = maker.spoil(t, "I(){}<>:,ABCHaJ");
                    if (t.length() > 100) t = t.substring(0, 100);
                    tell(t);
                    int r = m.fits(a);
                    due("fits " + a, x.fits(a), r);
                    note(r >= 0 ? "fits " + r : "fits sign");
                    break;
                }
                case 1: {
                    int r = m.above(a, b);
                    due("above " + a + " " + b, x.above(a, b), r);
                    if (r >= 0) note("above " + r + " " + m.row(0));
                    break;
                }
                case 2: {
                    int r = m.meets(a, b);
                    due("meets " + a + " " + b, x.meets(a, b), r);
                    note(r >= 0 ? "meets" : "meets " + r);
                    break;
                }
                default: {
                    int r = m.applies(a, b);
                    due("applies " + a + " " + b, x.applies(a, b), r);
                    note(r >= 0 ? "applies" : "applies " + r);
                }
            }
        }

        /** THE ANSWER as text, with numbers for its variables. */
        String told() {
            StringBuilder s = new StringBuilder();
            int n = m.type(-2, -1);
            for (int i = 0; i < n; i++) {
                char c = (char) m.type(-2, i);
                if (c >= 'a' && c <= 'z') s.append('I');
                else if (c < '0' || c > '9') s.append(c);
            }
            return s.toString();
        }

        void askValues(int w) {
            int r = m.steps(w);
            due("steps " + w, x.steps(w), r);
            note(r > 0 ? "steps " + m.row(0) : "steps " + r);
            compareRow();
            int n = m.value(w, -1);
            for (int i = -2; i <= n; i++) {
                due("value " + w + " " + i, x.value(w, i), m.value(w, i));
            }
            for (int label = -1; label < 9; label++) {
                int t = m.taken(w, label);
                due("taken " + w + " " + label, x.taken(w, label), t);
                note(t >= 0 ? "taken" : "taken " + t);
                compareRow();
            }
        }

        void askTexts() {
            int w = anyOne();
            due("parts " + w, x.parts(w), m.parts(w));
            compareRow();
            int label = random.nextInt(10) - 1;
            due("often " + w + " " + label, x.often(w, label), m.often(w, label));
            compareRow();
            due("free " + w, x.free(w), m.free(w));
        }

        void compareRow() {
            int n = m.count(3);
            due("count 3", x.count(3), n);
            for (int i = -1; i <= n; i++) {
                due("row " + i, rowOf(i), i >= 0 && i < n ? m.row(i) : Long.MIN_VALUE);
            }
        }

        private long rowOf(int i) {
            try {
                return x.row(i);
            } catch (NoSuchElementException e) {
                return Long.MIN_VALUE;
            }
        }

        void compareState() {
            compareRow();
            for (int what = -1; what < 6; what++) {
                due("count " + what, x.count(what), m.count(what));
            }
            compareAnswer();
        }

        void noteText(Model.Ex e, boolean function, boolean branch) {
            if (e.kind == '$' && function) note("$ within a function");
            if (e.kind == '$' && branch) note("$ within a branch");
            if (e.one != null) noteText(e.one, function || e.kind == '\\', branch);
            if (e.two != null) noteText(e.two, function, branch);
            for (Model.Branch b : e.branches) noteText(b.then, function, true);
        }

        void noteAnswer() {
            if (m.answer == null) return;
            int variables = Model.variables(m.answer).size();
            if (Model.size(m.answer) == 60) note("THE ANSWER of SIZE 60");
            if (variables > 26) note("more than 26 variables");
            if (variables > 52) note("more than 52 variables");
            if (Model.see(m.answer) instanceof Model.Rows r && Model.see(r.row).fields.size() == 8) note("all eight labels");
        }

        void compareAnswer() {
            noteAnswer();
            int n = m.type(-2, -1);
            for (int i = -1; i < n; i++) {
                due("type -2 " + i, x.type(-2, i), m.type(-2, i));
            }
        }
    }
}
