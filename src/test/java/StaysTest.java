import java.util.NoSuchElementException;

/**
 * What each call changes and what it leaves as it was. Each look is one at an object of its own, so that
 * the looks, which change the ROW or read THE TEXT, don't get in one another's way.
 */
public final class StaysTest {
    private static final int NONE = RowTypes.NONE;
    private static final int IT = -1;
    private static final int ANSWER = -2;
    private static final int LEAST = Integer.MIN_VALUE;
    private static final int MOST = Integer.MAX_VALUE;
    // D definitions, I IT, A THE ANSWER, R the ROW, T THE TEXT.
    private static final String STATE = "DIART";
    private static final String HUNDRED = "#C{C=1|" + "~BA~AB".repeat(14) + "{A=1|{}}}";

    private interface Make {
        RowTypes make();
    }

    private interface Act {
        long act(RowTypes x);
    }

    public static void main(String[] args) {
        Due.says(0, "Refused calls answer NONE, or false, and change nothing but THE TEXT");
        Make[] states = {RowTypes::new, StaysTest::rich, StaysTest::full, StaysTest::long_};
        for (Make state : states) {
            refusedOnes(state);
        }
        refusedSigns();
        refusedForgets();
        badSigns();
        faults();
        askedTypes();
        askedAnswers();
        askedValues();
        askedTexts();
        tooManySteps();
        told();
        forgotten();
        answerAsked();
        Due.end();
    }

    // ---- states

    /** Three definitions, IT, THE ANSWER, a ROW of three numbers, eight signs. */
    private static RowTypes rich() {
        RowTypes x = new RowTypes();
        Talk.defines(x, "\\r.#Ar");
        Talk.defines(x, "{B=1|{A=2|{}}}");
        Talk.defines(x, "\\v.?v[Cx.<Bx>;*y.y]");
        Talk.infers(x, "{A=(pq)|{C=\\x.x|{}}}");
        x.side(0, 0);
        x.sort(ANSWER);
        Talk.tell(x, "{D=4|{}}");
        return x;
    }

    /** Eight definitions, IT, THE ANSWER, a ROW of eleven numbers, a hundred signs. */
    private static RowTypes full() {
        RowTypes x = new RowTypes();
        for (String s : new String[] {"{A=1|{}}", "\\x.x", "\\r.#Ar", "<A1>", "\\v.?v[Ax.x;*y.2]", "1", "{}", "(q1)"}) {
            Talk.defines(x, s);
        }
        Talk.infers(x, "{A=w|{B=2|{}}}");
        x.closes(4);
        x.parts(IT);
        Talk.tell(x, HUNDRED);
        return x;
    }

    /** IT, and definition 2, are worked out in more than 500 steps. */
    private static RowTypes long_() {
        RowTypes x = new RowTypes();
        Talk.defines(x, "\\f.\\x.(f(fx))");
        Talk.defines(x, "\\x.x");
        Talk.defines(x, "(((((pp)p)p)q)1)");
        Talk.infers(x, "{A=r|{}}");
        x.side(1, 1);
        x.often(IT, 0);
        Talk.tell(x, "\\x.x");
        return x;
    }

    // ---- looks

    private static String look(RowTypes x, char what) {
        switch (what) {
            case 'D': return x.count(0) + definitions(x);
            case 'I': return x.count(1) + expression(x, IT);
            case 'A': return x.count(2) + " " + typeOf(x, ANSWER);
            case 'R': return x.count(3) + ": " + Talk.row(x);
            default: return x.count(4) + " " + textOf(x);
        }
    }

    private static String definitions(RowTypes x) {
        StringBuilder s = new StringBuilder();
        for (int w = 0; w < x.count(0); w++) {
            s.append(expression(x, w));
        }
        return s.toString();
    }

    private static String expression(RowTypes x, int w) {
        StringBuilder s = new StringBuilder(" " + typeOf(x, w) + " " + Talk.value(x, w) + " " + x.parts(w));
        s.append(' ').append(Talk.row(x)).append(' ').append(x.free(w)).append(' ').append(Talk.row(x));
        for (int label = 0; label < 4; label++) {
            s.append(' ').append(x.often(w, label));
        }
        return s.toString();
    }

    private static String typeOf(RowTypes x, int w) {
        StringBuilder s = new StringBuilder(Talk.type(x, w));
        for (int k = 0; x.lacks(w, k) != NONE; k++) {
            s.append(' ').append(x.lacks(w, k));
        }
        return s.toString();
    }

    /** What THE TEXT holds shows when it is read. */
    private static String textOf(RowTypes x) {
        int read = x.infers();
        return read + (read > 0 ? expression(x, IT) : "");
    }

    /** The call answers so, and just these parts of the state become others. */
    private static void changes(String what, Make state, Act call, long answer, String changed) {
        Due.due(what, call.act(state.make()), answer);
        for (char part : STATE.toCharArray()) {
            String before = look(state.make(), part);
            RowTypes x = state.make();
            call.act(x);
            String behind = look(x, part);
            if (changed.indexOf(part) < 0) {
                Due.due(what + ": " + part, behind, before);
            } else if (behind.equals(before)) {
                Due.due(what + ": " + part + " is another one", 0, 1);
            }
        }
    }

    private static void stays(String what, Make state, Act call, long answer) {
        changes(what, state, call, answer, "");
    }

    // ---- refused calls

    /** NONE: none such w; and other arguments that are refused, whatever w is. */
    private static void refusedOnes(Make state) {
        int n = state.make().count(0);
        boolean it = state.make().count(1) == 1;
        boolean answer = state.make().count(2) == 1;
        for (int w : new int[] {LEAST, -1000, -4, -3, n, n + 1, 8, 9, 100, MOST}) {
            if (w >= n || w < -2) {
                refusedTypes(state, w);
                refusedTexts(state, w);
            }
        }
        if (!it) {
            refusedTypes(state, IT);
            refusedTexts(state, IT);
        }
        if (!answer) {
            refusedTypes(state, ANSWER);
        }
        // THE ANSWER has no expression, whether it is there or not.
        refusedTexts(state, ANSWER);
        for (int w : new int[] {ANSWER, IT, 0, 1, 2, 8, LEAST, MOST}) {
            refusedArguments(state, w);
        }
        for (int i : new int[] {LEAST, -2, -1, state.make().count(3), MOST}) {
            stays("row " + i, state, x -> rowThrows(x, i), 1);
        }
        for (int what : new int[] {LEAST, -2, -1, 5, 6, MOST}) {
            stays("count " + what, state, x -> x.count(what), NONE);
        }
        for (int i : new int[] {LEAST, -2, -1, state.make().count(4) + 1, 101, MOST}) {
            stays("end " + i, state, x -> x.end(i) ? 1 : 0, 0);
        }
    }

    private static void refusedTypes(Make state, int w) {
        stays("size " + w, state, x -> x.size(w), NONE);
        stays("type " + w, state, x -> x.type(w, NONE), NONE);
        stays("type " + w + " 0", state, x -> x.type(w, 0), NONE);
        stays("lacks " + w, state, x -> x.lacks(w, 0), NONE);
        stays("sort " + w, state, x -> x.sort(w), NONE);
        stays("needs " + w, state, x -> x.needs(w), NONE);
        stays("field " + w, state, x -> x.field(w, 0), NONE);
        stays("side " + w, state, x -> x.side(w, 0), NONE);
        stays("closes " + w, state, x -> x.closes(w), NONE);
        fitsRefused(state, w);
        for (int other : new int[] {w, IT, ANSWER, 0, 1}) {
            stays("above " + w + " " + other, state, x -> x.above(w, other), NONE);
            stays("above " + other + " " + w, state, x -> x.above(other, w), NONE);
            stays("meets " + w + " " + other, state, x -> x.meets(w, other), NONE);
            stays("meets " + other + " " + w, state, x -> x.meets(other, w), NONE);
            stays("applies " + w + " " + other, state, x -> x.applies(w, other), NONE);
            stays("applies " + other + " " + w, state, x -> x.applies(other, w), NONE);
        }
    }

    /** THE TEXT is empty then, too: whether it could be read or not. */
    private static void fitsRefused(Make state, int w) {
        String changed = state.make().count(4) > 0 ? "T" : "";
        changes("fits " + w, state, x -> x.fits(w), NONE, changed);
        for (String text : new String[] {"", "I", "({A:I}>I)", "}", "{A:", "(".repeat(100)}) {
            Make with = () -> {
                RowTypes x = state.make();
                Talk.tell(x, text);
                return x;
            };
            changes("fits " + w + " of " + text, with, x -> x.fits(w), NONE, text.isEmpty() ? "" : "T");
            RowTypes x = with.make();
            x.fits(w);
            Due.due("signs behind fits " + w, x.count(4), 0);
        }
    }

    private static void refusedTexts(Make state, int w) {
        for (int place : new int[] {LEAST, -1, 0, 1, 99, MOST}) {
            stays("part " + w + " " + place, state, x -> x.part(w, place), NONE);
        }
        stays("steps " + w, state, x -> x.steps(w), NONE);
        for (int i : new int[] {LEAST, NONE, 0, MOST}) {
            stays("value " + w + " " + i, state, x -> x.value(w, i), NONE);
        }
        for (int label : new int[] {-1, 0, 7, 8}) {
            stays("taken " + w + " " + label, state, x -> x.taken(w, label), NONE);
            stays("often " + w + " " + label, state, x -> x.often(w, label), NONE);
        }
        stays("parts " + w, state, x -> x.parts(w), NONE);
        stays("free " + w, state, x -> x.free(w), NONE);
    }

    /** No such LABEL, another which, no such sign, no such variable: of any w. */
    private static void refusedArguments(Make state, int w) {
        for (int label : new int[] {LEAST, -2, -1, 8, 9, 32, 256, MOST}) {
            stays("field " + w + " " + label, state, x -> x.field(w, label), NONE);
            stays("taken " + w + " " + label, state, x -> x.taken(w, label), NONE);
            stays("often " + w + " " + label, state, x -> x.often(w, label), NONE);
        }
        for (int which : new int[] {LEAST, -2, -1, 2, 3, MOST}) {
            stays("side " + w + " " + which, state, x -> x.side(w, which), NONE);
        }
        for (int i : new int[] {LEAST, -3, -2, 1000, MOST}) {
            stays("type " + w + " " + i, state, x -> x.type(w, i), NONE);
        }
        for (int i : new int[] {LEAST, -3, -2}) {
            stays("value " + w + " " + i, state, x -> x.value(w, i), NONE);
        }
        for (int k : new int[] {LEAST, -2, -1, 100, MOST}) {
            stays("lacks " + w + " " + k, state, x -> x.lacks(w, k), NONE);
        }
    }

    private static long rowThrows(RowTypes x, int i) {
        try {
            x.row(i);
            return 0;
        } catch (NoSuchElementException e) {
            return 1;
        }
    }

    private static void refusedSigns() {
        Due.says(2, "Refused: there would be more than 100.");
        for (int v : new int[] {LEAST, -1, 0, 0x31313131, MOST}) {
            stays("a sign behind 100", StaysTest::full, x -> x.sign(v), NONE);
            for (int n = 97; n <= 99; n++) {
                int first = n;
                Make state = () -> {
                    RowTypes x = full();
                    x.end(first);
                    return x;
                };
                stays("a sign behind " + n, state, x -> x.sign(v), NONE);
            }
            Make state = () -> {
                RowTypes x = full();
                x.end(96);
                return x;
            };
            changes("a sign behind 96", state, x -> x.sign(v), 100, "T");
        }
    }

    private static void refusedForgets() {
        Due.says(6, "NONE: k is below 0; no such one (k may be as many as there are: 0).");
        for (int k : new int[] {LEAST, -2, -1, 4, 5, 8, 9, MOST}) {
            stays("forgets " + k + " of three", StaysTest::rich, x -> x.forgets(k), NONE);
        }
        for (int k : new int[] {LEAST, -1, 9, 10, MOST}) {
            stays("forgets " + k + " of eight", StaysTest::full, x -> x.forgets(k), NONE);
        }
        for (int k : new int[] {LEAST, -1, 1, 2, MOST}) {
            stays("forgets " + k + " of none", RowTypes::new, x -> x.forgets(k), NONE);
        }
        stays("forgets as many as there are", StaysTest::rich, x -> x.forgets(3), 0);
        stays("forgets as many as there are", StaysTest::full, x -> x.forgets(8), 0);
        stays("forgets as many as there are", RowTypes::new, x -> x.forgets(0), 0);
    }

    // ---- calls that read THE TEXT

    private static void badSigns() {
        Due.says(0, "THE TEXT, which a call that reads it empties");
        for (String text : new String[] {"!", "12", "{A=1|", "?1[Ax.1;Ay.2]", "~AA{}", "(".repeat(100)}) {
            int place = text.equals("12") ? 1 : text.startsWith("~") ? 2 : text.startsWith("?") ? 8
                    : text.equals("!") ? 0 : text.length();
            for (Make state : new Make[] {StaysTest::rich, StaysTest::full}) {
                Make with = with(state, text);
                changes("infers " + text, with, x -> x.infers(), -1 - place, "T");
                changes("defines " + text, with, x -> x.defines(), -1 - place, "T");
            }
        }
        stays("infers nothing", with(StaysTest::rich, ""), x -> x.infers(), -1);
        stays("defines nothing", with(StaysTest::rich, ""), x -> x.defines(), -1);
        stays("fits nothing", with(StaysTest::rich, ""), x -> x.fits(IT), -1);
        changes("fits !", with(StaysTest::rich, "{!}"), x -> x.fits(IT), -2, "T");
        changes("fits", with(StaysTest::rich, "{}"), x -> x.fits(IT), 0, "T");
        changes("fits", with(StaysTest::rich, "{A:I,C:(I>I)}"), x -> x.fits(IT), 1, "T");
        changes("fits", with(StaysTest::rich, "{A:I}"), x -> x.fits(ANSWER), 1, "T");
        Due.says(5, "-300: there are eight (asked behind the signs, ahead of FAULTS).");
        changes("defines a ninth", StaysTest::full, x -> x.defines(), -300, "T");
        changes("defines a ninth with a fault", with(StaysTest::full, "(11)"), x -> x.defines(), -300, "T");
        changes("infers with eight", StaysTest::full, x -> x.infers(), 1, "TI");
    }

    private static Make with(Make state, String text) {
        return () -> {
            RowTypes x = state.make();
            Talk.tell(x, text);
            return x;
        };
    }

    private static void faults() {
        Due.says(0, "the ROW then: the LABEL of 3, 4 (NONE with others).");
        String[] texts = {"{A=1|x}", "(11)", "#H{A=1|{}}", "{F=1|{F=1|{}}}", "\\x.(xx)", "\\r.\\s.&rs",
            "$d=\\x.{A=x|{B=x|{}}};(d(d(d(d(d1)))))"};
        int[] places = {5, 0, 0, 0, 3, 6, 21};
        int[] labels = {NONE, NONE, 7, 5, NONE, NONE, NONE};
        for (int i = 0; i < texts.length; i++) {
            int answer = -1000 * (i + 1) - places[i];
            changes("infers " + texts[i], with(StaysTest::rich, texts[i]), x -> x.infers(), answer, "TR");
            changes("defines " + texts[i], with(StaysTest::rich, texts[i]), x -> x.defines(), answer, "TR");
            changes("infers " + texts[i], with(StaysTest::full, texts[i]), x -> x.infers(), answer, "TR");
            RowTypes x = with(StaysTest::rich, texts[i]).make();
            x.infers();
            Due.due("the ROW behind " + texts[i], Talk.row(x), String.valueOf(labels[i]));
        }
    }

    private static void told() {
        Due.says(4, "THE TEXT is an EXPRESSION: IT, if it has a TYPE: SIZE.");
        changes("infers", StaysTest::rich, x -> x.infers(), 2, "TI");
        Due.says(5, "but it is the next DEFINITION (IT stays): its number.");
        changes("defines", StaysTest::rich, x -> x.defines(), 3, "TD");
        Due.says(2, "Four signs come behind THE TEXT");
        changes("sign", StaysTest::rich, x -> x.sign(0x31313131), 12, "T");
        Due.says(3, "THE TEXT has its first n signs alone: true;");
        changes("end", StaysTest::rich, x -> x.end(7) ? 1 : 0, 1, "T");
        changes("end", StaysTest::full, x -> x.end(99) ? 1 : 0, 1, "T");
        changes("end", StaysTest::rich, x -> x.end(0) ? 1 : 0, 1, "T");
        stays("all signs stay", StaysTest::rich, x -> x.end(8) ? 1 : 0, 1);
        stays("all signs stay", StaysTest::full, x -> x.end(100) ? 1 : 0, 1);
        stays("no signs", RowTypes::new, x -> x.end(0) ? 1 : 0, 1);
    }

    private static void forgotten() {
        Due.says(6, "DEFINITIONS from number k on go, and IT, if one of their NAMES is free in it: how many DEFINITIONS.");
        changes("forgets 2", StaysTest::rich, x -> x.forgets(2), 1, "D");
        changes("forgets 1", StaysTest::rich, x -> x.forgets(1), 2, "DI");
        changes("forgets 0", StaysTest::rich, x -> x.forgets(0), 3, "DI");
        changes("forgets 7", StaysTest::full, x -> x.forgets(7), 1, "DI");
        changes("forgets 0", StaysTest::full, x -> x.forgets(0), 8, "DI");
    }

    // ---- calls that ask

    private static void askedTypes() {
        Due.says(0, "Calls that ask change nothing but the ROW, and, if they say so, THE ANSWER.");
        changes("size", StaysTest::rich, x -> x.size(IT), 5, "R");
        changes("size", StaysTest::rich, x -> x.size(ANSWER), 3, "R");
        stays("type", StaysTest::rich, x -> x.type(IT, NONE), 13);
        stays("type", StaysTest::rich, x -> x.type(IT, 12), '}');
        stays("type behind", StaysTest::rich, x -> x.type(IT, 13), NONE);
        stays("lacks", StaysTest::rich, x -> x.lacks(ANSWER, 1), 1);
        stays("lacks of no row variable", StaysTest::rich, x -> x.lacks(ANSWER, 0), -2);
        stays("lacks behind", StaysTest::rich, x -> x.lacks(ANSWER, 2), NONE);
        changes("sort", StaysTest::rich, x -> x.sort(IT), 2, "R");
        changes("sort", StaysTest::rich, x -> x.sort(0), 1, "R");
        changes("needs", StaysTest::rich, x -> x.needs(2), 1, "R");
        stays("needs of no function", StaysTest::rich, x -> x.needs(IT), -2);
        stays("needs of no function", StaysTest::rich, x -> x.needs(ANSWER), -2);
        changes("above", StaysTest::rich, x -> x.above(0, 0), 1, "R");
        changes("above", StaysTest::rich, x -> x.above(0, 2), 0, "R");
        stays("count", StaysTest::rich, x -> x.count(0), 3);
        stays("row", StaysTest::rich, x -> x.row(2), 1);
    }

    private static void askedAnswers() {
        Due.says(12, "THE ANSWER becomes the TYPE of the FIELD");
        changes("field", StaysTest::rich, x -> x.field(IT, 2), 3, "A");
        changes("field", StaysTest::rich, x -> x.field(ANSWER, 0), 1, "A");
        Due.says(12, "-2: it is none, or has none such;");
        stays("field", StaysTest::rich, x -> x.field(IT, 1), -2);
        stays("field", StaysTest::rich, x -> x.field(IT, 7), -2);
        stays("field", StaysTest::rich, x -> x.field(0, 0), -2);
        Due.says(13, "THE ANSWER becomes what the TYPE of w, a function, is from (which 0) or to (1): SIZE.");
        changes("side", StaysTest::rich, x -> x.side(2, 0), 4, "A");
        changes("side", StaysTest::rich, x -> x.side(0, 1), 1, "A");
        Due.says(13, "-2: it is none;");
        stays("side", StaysTest::rich, x -> x.side(1, 0), -2);
        stays("side", StaysTest::rich, x -> x.side(ANSWER, 1), -2);
        Due.says(14, "THE ANSWER becomes the TYPE of w, all ENDS that are variables having become nothing: SIZE.");
        changes("closes", StaysTest::rich, x -> x.closes(0), 4, "A");
        changes("closes", StaysTest::rich, x -> x.closes(ANSWER), 2, "A");
        Due.says(17, "THE ANSWER becomes that: SIZE.");
        changes("meets", StaysTest::rich, x -> x.meets(ANSWER, 1), 3, "A");
        changes("meets", StaysTest::rich, x -> x.meets(1, ANSWER), 3, "A");
        Due.says(17, "A FAULT (7, too);");
        changes("meets", StaysTest::rich, x -> x.meets(0, 1), -2000, "R");
        changes("meets", StaysTest::rich, x -> x.meets(IT, 1), -3000, "R");
        Due.says(18, "THE ANSWER becomes the TYPE of ( a b ), were they EXPRESSIONS of their TYPES, with new variables: SIZE.");
        changes("applies", StaysTest::rich, x -> x.applies(0, 1), 1, "A");
        Due.says(18, "A FAULT;");
        changes("applies", StaysTest::rich, x -> x.applies(1, 1), -2000, "R");
        changes("applies", StaysTest::full, x -> x.applies(2, 6), -3000, "R");
        Due.says(19, "THE ANSWER becomes the TYPE that the EXPRESSION of which the first sign is at a PLACE");
        changes("part", StaysTest::rich, x -> x.part(IT, 0), 5, "A");
        changes("part", StaysTest::rich, x -> x.part(0, 3), 1, "A");
        Due.says(19, "-2: none begins there;");
        for (int place : new int[] {LEAST, -2, -1, 1, 2, 7, 21, 99, 100, MOST}) {
            stays("part " + place, StaysTest::rich, x -> x.part(IT, place), -2);
        }
    }

    private static void askedValues() {
        Due.says(20, "the ROW: the sort of its VALUE");
        changes("steps", StaysTest::rich, x -> x.steps(IT), 15, "R");
        changes("steps", StaysTest::rich, x -> x.steps(0), 1, "R");
        Due.says(21, "Sign i of the VALUE of w, WRITTEN; i NONE: how many signs.");
        stays("value", StaysTest::rich, x -> x.value(IT, NONE), 9);
        stays("value", StaysTest::rich, x -> x.value(IT, 8), '}');
        stays("value behind", StaysTest::rich, x -> x.value(IT, 9), NONE);
        Due.says(22, "the ROW: one number, the second one that steps() would tell of it.");
        changes("taken", StaysTest::rich, x -> x.taken(IT, 0), 0, "R");
        Due.says(22, "-3: it is none, or has none such;");
        stays("taken", StaysTest::rich, x -> x.taken(IT, 1), -3);
        stays("taken", StaysTest::rich, x -> x.taken(IT, 7), -3);
        stays("taken", StaysTest::rich, x -> x.taken(0, 0), -3);
        stays("taken", StaysTest::full, x -> x.taken(5, 0), -3);
        stays("taken", StaysTest::full, x -> x.taken(3, 1), -3);
    }

    private static void askedTexts() {
        Due.says(23, "the ROW: how many are numbers");
        changes("parts", StaysTest::rich, x -> x.parts(IT), 8, "R");
        Due.says(24, "the ROW: how often in");
        changes("often", StaysTest::rich, x -> x.often(IT, 0), 1, "R");
        changes("often", StaysTest::rich, x -> x.often(IT, 7), 0, "R");
        Due.says(25, "the ROW: how deep EXPRESSIONS are within one another at most");
        changes("free", StaysTest::rich, x -> x.free(IT), 1 << 15 | 1 << 16, "R");
    }

    private static void tooManySteps() {
        Due.says(0, "NONE comes ahead of other answers below 0, these as they are told; the ROW, THE ANSWER stay with these");
        for (int w : new int[] {IT, 2}) {
            stays("steps", StaysTest::long_, x -> x.steps(w), -2);
            for (int i : new int[] {NONE, 0, 1, MOST}) {
                stays("value " + i, StaysTest::long_, x -> x.value(w, i), -2);
            }
            for (int label = 0; label < 8; label++) {
                int of = label;
                stays("taken " + label, StaysTest::long_, x -> x.taken(w, of), -2);
            }
        }
    }

    /** What is asked of THE ANSWER while it becomes another one. */
    private static void answerAsked() {
        Due.says(0, "THE ANSWER: a TYPE (at first none).");
        for (char part : STATE.toCharArray()) {
            RowTypes x = rich();
            x.meets(ANSWER, ANSWER);
            Due.due("THE ANSWER with itself: " + part, look(x, part), look(rich(), part));
        }
        RowTypes x = rich();
        x.forgets(0);
        Due.due("THE ANSWER stays when its definition goes", Talk.type(x, ANSWER), "{A:a|b}");
        Talk.defines(x, "1");
        Talk.infers(x, "2");
        Due.due("THE ANSWER stays when others are told", Talk.type(x, ANSWER), "{A:a|b}");
    }
}
