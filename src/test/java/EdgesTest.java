import java.util.NoSuchElementException;

/** Each sentence of the document that names a boundary: what is on this side of it, and on the other one. */
public final class EdgesTest {
    private static final int NONE = RowTypes.NONE;
    private static final int IT = -1;
    private static final int ANSWER = -2;
    private static final int LEAST = Integer.MIN_VALUE;
    private static final int MOST = Integer.MAX_VALUE;
    private static final String[] ALL_FIELDS = {"A", "B", "C", "D", "E", "F", "G", "H"};
    // With p, which takes all fields, and q, which calls p of the fields A to E: r becomes a record of SIZE 60.
    private static final String MANY = "?<A1>[Ay.1;Br.$x=(qr);" + takes("r", "1]", "AF", "BF", "CF", "DF", "G", "H");

    public static void main(String[] args) {
        newObject();
        sign();
        end();
        namesOfDefinitions();
        digitsAndLetters();
        unknown();
        clash();
        missing();
        twice();
        endless();
        endlessRows();
        open();
        whichRowFaultFirst();
        whichLabelFirst();
        whichExpressionFirst();
        sizes();
        tooGreatOfEachKind();
        tooGreatLater();
        defines();
        forgets();
        which();
        manyVariables();
        manyTypes();
        type();
        lacks();
        sort();
        needs();
        field();
        side();
        closes();
        fits();
        above();
        aboveRowsWithinRows();
        meets();
        meetsTooGreat();
        applies();
        part();
        partTooGreat();
        steps();
        stepsOfEachKind();
        value();
        taken();
        parts();
        often();
        free();
        count();
        row();
        Due.end();
    }

    // ---- helpers

    private static RowTypes with(String... definitions) {
        RowTypes x = new RowTypes();
        for (int i = 0; i < definitions.length; i++) {
            Due.due("defines " + definitions[i], Talk.defines(x, definitions[i]), i);
        }
        return x;
    }

    private static RowTypes it(String text, String... definitions) {
        RowTypes x = with(definitions);
        Due.due("infers " + text + " has a type", Talk.infers(x, text) > 0, true);
        return x;
    }

    private static void has(String text, String type, String... definitions) {
        RowTypes x = with(definitions);
        Talk.infers(x, text);
        Due.due("the type of " + text, Talk.type(x, IT), type);
        int number = Talk.defines(x, text);
        Due.due("defines " + text, number, definitions.length);
        Due.due("the type of " + text, Talk.type(x, definitions.length), type);
    }

    /** The same fault by infers() and by defines(), with the ROW that it tells. */
    private static void faulty(String text, int fault, int place, int label, String... definitions) {
        int answer = -1000 * fault - place;
        RowTypes x = with(definitions);
        Due.due("infers " + text, Talk.infers(x, text), answer);
        Due.due("the ROW of " + text, Talk.row(x), String.valueOf(label));
        Due.due("no IT by " + text, x.count(1), 0);
        x = with(definitions);
        Due.due("defines " + text, Talk.defines(x, text), answer);
        Due.due("the ROW of " + text, Talk.row(x), String.valueOf(label));
        Due.due("no definition by " + text, x.count(0), definitions.length);
    }

    private static boolean noSuch(RowTypes x, int i) {
        try {
            x.row(i);
            return false;
        } catch (NoSuchElementException e) {
            return true;
        }
    }

    /** A function of a function .. of a number: SIZE 1 + 2 n. */
    private static String deep(int n) {
        return "\\a.".repeat(n) + "1";
    }

    /** Takes fields of a name and goes on with the rest. */
    private static String takes(String name, String rest, String... fields) {
        StringBuilder s = new StringBuilder();
        for (String f : fields) {
            s.append("$x=").append("#").append(String.join("#", f.split(""))).append(name).append(';');
        }
        return s + rest;
    }

    // ---- expressions

    private static void newObject() {
        Due.says(1, "No DEFINITIONS, no IT.");
        RowTypes x = new RowTypes();
        Due.due("definitions", x.count(0), 0);
        Due.due("IT", x.count(1), 0);
        Due.due("size of IT", x.size(IT), NONE);
        Due.due("size of 0", x.size(0), NONE);
        Due.says(0, "THE ANSWER: a TYPE (at first none).");
        Due.due("THE ANSWER", x.count(2), 0);
        Due.due("size of THE ANSWER", x.size(ANSWER), NONE);
        Due.due("the ROW", x.count(3), 0);
        Due.due("THE TEXT", x.count(4), 0);
        RowTypes y = it("1", "2");
        y.closes(IT);
        x = new RowTypes();
        Due.due("another object", x.count(0) + x.count(1) + x.count(2) + x.count(3) + x.count(4), 0);
    }

    private static void sign() {
        Due.says(2, "Four signs come behind THE TEXT, of v the highest byte first: how many it has.");
        for (int v : new int[] {LEAST, -1, 0, 1, MOST}) {
            Due.due("sign " + v, new RowTypes().sign(v), 4);
        }
        // The first sign is the highest byte: a number there, and what comes behind can't stand.
        for (int byTurns = 0; byTurns < 4; byTurns++) {
            RowTypes x = new RowTypes();
            x.sign(0x26262626 & ~(0xFF << 24 - 8 * byTurns) | 0x80 << 24 - 8 * byTurns);
            Due.due("a sign above 127 as number " + byTurns, x.infers(), -1 - byTurns);
        }
        RowTypes x = new RowTypes();
        x.sign('{' << 24 | 'A' << 16 | '=' << 8 | '1');
        Due.due("8", x.sign('|' << 24 | '{' << 16 | '}' << 8 | '}'), 8);
        Due.due("in their order", x.infers(), 2);
        Due.says(2, "Refused: there would be more than 100.");
        x = new RowTypes();
        for (int n = 4; n <= 100; n += 4) {
            Due.due("up to 100", x.sign(0x26262626), n);
        }
        Due.due("104", x.sign(0x26262626), NONE);
        for (int n = 99; n >= 97; n--) {
            x.end(n);
            Due.due("behind " + n, x.sign(0x26262626), NONE);
            Due.due("still " + n, x.count(4), n);
        }
        x.end(96);
        Due.due("behind 96", x.sign(0x26262626), 100);
    }

    private static void end() {
        Due.says(3, "THE TEXT has its first n signs alone: true; false if it has not so many, or n is below 0.");
        RowTypes x = new RowTypes();
        for (int n : new int[] {LEAST, -2, -1, 1, 2, 100, MOST}) {
            Due.due("end " + n + " of none", x.end(n), false);
        }
        Due.due("end 0 of none", x.end(0), true);
        x.sign('1' << 24 | '2' << 16 | '3' << 8 | '4');
        for (int n : new int[] {LEAST, -1, 5, 8, MOST}) {
            Due.due("end " + n + " of four", x.end(n), false);
            Due.due("four stay", x.count(4), 4);
        }
        for (int n = 4; n >= 0; n--) {
            Due.due("end " + n, x.end(n), true);
            Due.due("signs", x.count(4), n);
            Due.due("one more is too many", x.end(n + 1), false);
        }
        x.sign('\\' << 24 | 'x' << 16 | '.' << 8 | '#');
        x.end(3);
        Due.due("signs come behind the end", x.sign('\\' << 24 | 'y' << 16 | '.' << 8 | 'x'), 7);
        Due.due("the first ones stay", x.infers(), 5);
        for (int i = 0; i < 25; i++) {
            x.sign(0x26262626);
        }
        Due.due("101", x.end(101), false);
        Due.due("100", x.end(100), true);
        Due.due("100", x.count(4), 100);
    }

    private static void namesOfDefinitions() {
        Due.says(0, "number k goes by the NAME that is k letters behind p.");
        String[] eight = new String[8];
        for (int k = 0; k < 8; k++) {
            eight[k] = "<" + (char) ('A' + k) + "1>";
        }
        for (int n = 0; n <= 8; n++) {
            String[] some = java.util.Arrays.copyOf(eight, n);
            for (char name = 'a'; name <= 'z'; name++) {
                if (name >= 'p' && name < 'p' + n) {
                    typeIs(String.valueOf(name), "<" + (char) ('A' + name - 'p') + ":I|a>", some);
                } else {
                    Due.due(name + " with " + n, Talk.infers(with(some), String.valueOf(name)), -1000);
                }
            }
        }
        Due.says(0, "(the innermost one that binds it; these behind all)");
        has("\\p.p", "(a>a)", "1");
        has("$p={};p", "{}", "1");
        has("?<A{}>[Ap.p]", "{}", "1");
        has("?<A{}>[*p.p]", "<A:{}|a>", "1");
        has("\\x.\\x.x", "(a>(b>b))");
        has("\\x.$x=1;x", "(a>I)");
        has("$x=1;\\x.x", "(a>a)");
        has("$p=p;p", "I", "1");
        has("{A=\\p.p|{B=p|{}}}", "{A:(a>a),B:I}", "1");
        has("{A=$p={};p|{B=p|{}}}", "{A:{},B:I}", "1");
        has("$x=1;{A=$x={};x|{B=x|{}}}", "{A:{},B:I}");
        has("$x=1;{A=?<A{}>[Ax.x]|{B=x|{}}}", "{A:{},B:I}");
        has("\\x.{A=$x={};x|{B=x|{}}}", "(a>{A:{},B:a})");
    }

    private static void typeIs(String text, String type, String... definitions) {
        RowTypes x = with(definitions);
        Talk.infers(x, text);
        Due.due("the type of " + text + " with " + definitions.length, Talk.type(x, IT), type);
    }

    private static void digitsAndLetters() {
        Due.says(0, "a digit: that number; a small letter: a NAME;");
        for (int n = 0; n <= 9; n++) {
            RowTypes x = it(String.valueOf(n));
            x.steps(IT);
            Due.due("the number " + n, x.row(1), n);
        }
        for (char name = 'a'; name <= 'z'; name++) {
            typeIs("\\" + name + "." + name, "(a>a)");
        }
        Due.says(0, "LABELS A .. H (0 .. 7).");
        for (int label = 0; label < 8; label++) {
            RowTypes x = it("{" + (char) ('A' + label) + "=1|{}}");
            x.sort(IT);
            Due.due("the LABEL " + label, x.row(0), 1 << label);
            Due.due("its FIELD", x.field(IT, label), 1);
        }
    }

    private static void unknown() {
        Due.says(0, "a NAME that nothing binds: UNKNOWN.");
        faulty("x", 1, 0, NONE);
        faulty("\\x.y", 1, 3, NONE);
        faulty("$x=x;1", 1, 3, NONE);
        faulty("{A=\\x.x|x}", 1, 8, NONE);
        faulty("?<A1>[Ax.1;By.x]", 1, 14, NONE);
        faulty("?x[Ax.1]", 1, 1, NONE);
        // Behind the expression that binds it, it is bound no more.
        faulty("{A=$x=1;x|x}", 1, 10, NONE);
        faulty("{A=?<A1>[Ax.x]|x}", 1, 15, NONE);
        faulty("{A=?<A1>[*x.1]|x}", 1, 15, NONE);
        faulty("$y=$x=1;x;x", 1, 10, NONE);
        faulty("o", 1, 0, NONE, "1");
        faulty("q", 1, 0, NONE, "1");
        has("p", "I", "1");
        has("\\x.\\y.x", "(a>(b>a))");
        has("$x=1;x", "I");
        has("?<A1>[Ax.x;By.y]", "I");
    }

    private static void clash() {
        Due.says(0, "two records, two variants: their ROWS; others: a CLASH.");
        String[] ones = {"1", "\\x.x", "{}", "<A1>"};
        // Each two sorts of types meet as two branches.
        for (int i = 0; i < 4; i++) {
            for (int k = 0; k < 4; k++) {
                String text = "?<A1>[Ax." + ones[i] + ";Bx." + ones[k] + "]";
                if (i == k) {
                    Due.due(text, Talk.infers(new RowTypes(), text) > 0, true);
                } else {
                    faulty(text, 2, 10 + ones[i].length(), NONE);
                }
            }
        }
        faulty("(11)", 2, 0, NONE);
        faulty("({}1)", 2, 0, NONE);
        faulty("#A1", 2, 0, NONE);
        faulty("#A<A1>", 2, 0, NONE);
        faulty("-A1", 2, 0, NONE);
        faulty("~AB\\x.x", 2, 0, NONE);
        faulty("{A=1|2}", 2, 0, NONE);
        faulty("{A=1|<B2>}", 2, 0, NONE);
        faulty("&1{}", 2, 0, NONE);
        faulty("&{}1", 2, 0, NONE);
        faulty("&<A1>{}", 2, 0, NONE);
        faulty("?1[Ax.x]", 2, 0, NONE);
        faulty("?{A=1|{}}[Ax.x]", 2, 0, NONE);
        faulty("?<A1>[Ax.x;*y.y]", 2, 11, NONE);
        has("(\\x.x1)", "I");
        has("?<A1>[Ax.x]", "I");
        has("?<A1>[Ax.<Bx>;*y.y]", "<B:I|a>");
        Due.says(0, "two functions: from what, then to what;");
        faulty("(\\f.(f1)\\r.#Ar)", 2, 0, NONE);
        faulty("(\\f.#A(f1)\\x.{})", 3, 0, 0);
        // From what is a CLASH, to what is MISSING: the first one counts.
        faulty("(\\f.#A(f1)\\r.-B{B=#Cr|{}})", 2, 0, NONE);
    }

    private static void missing() {
        Due.says(0, "if its END is nothing: it is MISSING;");
        for (int label = 0; label < 8; label++) {
            String l = ALL_FIELDS[label];
            faulty("#" + l + "{}", 3, 0, label);
            faulty("-" + l + "{}", 3, 0, label);
            faulty("~" + l + (label == 0 ? "B" : "A") + "{}", 3, 0, label);
            faulty("?<" + l + "1>[" + (label == 0 ? "B" : "A") + "x.x]", 3, 0, label);
            has("#" + l + "{" + l + "=1|{}}", "I");
            has("-" + l + "{" + l + "=1|{}}", "{}");
            has("?<" + l + "1>[" + l + "x.x]", "I");
            has("?<" + l + "1>[*x.2]", "I");
        }
        faulty("?<A1>[Ax.{A=1|{}};Bx.{}]", 3, 18, 0);
        faulty("?<A1>[Ax.{};Bx.{A=1|{}}]", 3, 12, 0);
        faulty("?<A1>[Ax.{};*x.{G=1|{}}]", 3, 12, 6);
    }

    private static void twice() {
        Due.says(0, "if its END LACKS it: it is there TWICE;");
        for (int label = 0; label < 8; label++) {
            String l = ALL_FIELDS[label];
            String other = ALL_FIELDS[(label + 3) % 8];
            faulty("{" + l + "=1|{" + l + "=2|{}}}", 4, 0, label);
            has("{" + l + "=1|{" + other + "=2|{}}}", label < 5 ? "{" + l + ":I," + other + ":I}" : "{" + other + ":I," + l + ":I}");
            faulty("~" + other + l + "{" + other + "=1|{" + l + "=2|{}}}", 4, 0, label);
            has("~" + other + l + "{" + other + "=1|{}}", "{" + l + ":I}");
            faulty("&{" + l + "=1|{}}{" + l + "=2|{}}", 4, 0, label);
            faulty("\\r.{" + l + "=1|{" + other + "=1|{" + l + "=1|r}}}", 4, 3, label);
            faulty("\\v.?v[" + l + "x.1;*y.?y[" + l + "z.2;*u.3]]", 4, 14, label);
            has("\\v.?v[" + l + "x.1;*y.?y[*u.3]]", "(<" + l + ":a|b>>I)");
        }
        Due.says(0, "a record of a new END that LACKS its LABELS: a record of its FIELDS and that END; "
                + "else if that of E's has none, likewise the other way round;");
        faulty("\\r.$x=#Ar;&r{A=1|{}}", 4, 10, 0);
        faulty("\\r.$x=#Ar;&{A=1|{}}r", 4, 10, 0);
        has("\\r.$x=#Br;&r{A=1|{}}", "({B:a|b}>{A:I,B:a|b})");
        has("\\r.$x=#Br;&{A=1|{}}r", "({B:a|b}>{A:I,B:a|b})");
        Due.due("LACKS", it("\\r.$x=#Br;&{A=1|{}}r").lacks(IT, 1), 3);
    }

    private static void endless() {
        Due.says(0, "it becomes the other one, ENDLESS if it is in that;");
        faulty("\\x.(xx)", 5, 3, NONE);
        has("\\x.\\y.(xy)", "((a>b)>(a>b))");
        faulty("\\x.?<Ax>[Ay.y;By.\\z.x]", 5, 14, NONE);
        faulty("\\x.?<Ax>[Ay.y;By.\\z.?<Az>[Az.z;Bz.x]]", 5, 14, NONE);
        faulty("\\x.?<A{A=x|{}}>[Ay.y;By.x]", 5, 21, NONE);
        faulty("\\x.?<Ax>[Ay.y;By.{H={H=x|{}}|{}}]", 5, 14, NONE);
        faulty("\\x.?<Ax>[Ay.y;By.<Ax>]", 5, 14, NONE);
        faulty("\\x.?<A<Ax>>[Ay.y;By.x]", 5, 17, NONE);
        Due.says(0, "if both are one variable, nothing;");
        has("\\x.?<Ax>[Ay.y;By.x]", "(a>a)");
        has("\\x.?<Ax>[Ay.\\z.y;By.\\z.x]", "(a>(b>a))");
    }

    private static void endlessRows() {
        Due.says(0, "if the END of the other one is the same variable: ENDLESS;");
        // {B:I|a} and {|a}, one first and the other one first; and the same one twice.
        faulty("\\r.?<Ar>[Ax.{B=1|-Bx};*o.-Br]", 5, 22, NONE);
        faulty("\\r.?<Ar>[Ax.-Bx;*o.{B=1|-Br}]", 5, 16, NONE);
        has("\\r.?<Ar>[Ax.-Bx;*o.-Br]", "({B:a|b}>{|b})");
        has("\\r.?<Ar>[Ax.{B=1|-Bx};*o.{B=2|-Br}]", "({B:a|b}>{B:I|b})");
        Due.says(0, "if its END is in that TYPE: ENDLESS;");
        // {|a} must take the field A of a type in which a is.
        faulty("\\r.$y={B=1|r};?<Ar>[Ax.x;By.{A=r|{}}]", 5, 25, NONE);
        faulty("\\r.$y={B=1|r};?<Ar>[Ax.x;By.{A=\\x.r|{}}]", 5, 25, NONE);
        faulty("\\r.$y={B=1|r};?<A{A=r|{}}>[Ax.x;By.r]", 5, 32, NONE);
        faulty("\\r.$y={B=1|r};?<Ar>[Ax.x;By.{C={B=1|r}|{}}]", 5, 25, NONE);
        has("\\r.$y={B=1|r};?<Ar>[Ax.x;By.{A=1|{}}]", "({A:I}>{A:I})");
    }

    private static void whichRowFaultFirst() {
        Due.says(0, "if its END LACKS it: it is there TWICE; if its END is in that TYPE: ENDLESS;");
        // {|a} that LACKS A must take the field A of a type in which a is: both hold.
        faulty("\\r.$y={A=1|r};?<Ar>[Ax.x;By.{A=r|{}}]", 4, 25, 0);
        faulty("\\r.$y={A=1|r};?<A{A=r|{}}>[Ax.x;By.r]", 4, 32, 0);
        Due.says(0, "if the END of the other one is the same variable: ENDLESS; if its END LACKS it: it is there TWICE;");
        // {|a} must take B of {B:I|a}, and a LACKS B: both hold.
        faulty("\\r.?<Ar>[Ax.{B=1|-Bx};*o.-Br]", 5, 22, NONE);
        Due.says(0, "if its END is nothing: it is MISSING; if the END of the other one is the same variable: ENDLESS;");
        faulty("?<A{}>[Ax.{};Bx.{B=1|{}}]", 3, 13, 1);
    }

    private static void open() {
        Due.says(0, "else OPEN.");
        faulty("\\r.\\s.&rs", 6, 6, NONE);
        faulty("\\r.&rr", 6, 3, NONE);
        faulty("\\r.\\s.&{A=1|r}{B=2|s}", 6, 6, NONE);
        faulty("\\r.{A=&rr|{}}", 6, 6, NONE);
        has("\\r.&r{}", "({|a}>{|a})");
        has("\\r.&{}r", "({|a}>{|a})");
        has("&{}{}", "{}");
        has("\\r.\\s.&&{}r{}", "({|a}>(b>{|a}))");
        // A fault of either one comes ahead of OPEN.
        faulty("\\r.&r1", 2, 3, NONE);
        faulty("\\r.&1r", 2, 3, NONE);
        faulty("\\r.&rx", 1, 5, NONE);
        faulty("\\r.&xr", 1, 4, NONE);
    }

    private static void whichLabelFirst() {
        Due.says(0, "by LABELS A to H, each that one of both has then:");
        faulty("?<A1>[Ax.{A=1|{B=1|{}}};Bx.{C=1|{D=1|{}}}]", 3, 24, 0);
        faulty("?<A1>[Ax.{C=1|{D=1|{}}};Bx.{A=1|{B=1|{}}}]", 3, 24, 0);
        faulty("?<A1>[Ax.{H=1|{G=1|{}}};Bx.{}]", 3, 24, 6);
        faulty("?<A1>[Ax.{A=1|{B=1|{}}};Bx.{A={}|{}}]", 2, 24, NONE);
        faulty("?<A1>[Ax.{A=1|{B=1|{}}};Bx.{B={}|{}}]", 3, 24, 0);
        faulty("?<A1>[Ax.{B=1|{C=1|{}}};Bx.{B=2|{}}]", 3, 24, 2);
        faulty("&{B=1|{C=1|{}}}{C=1|{B=1|{}}}", 4, 0, 1);
        // What is within A gives the same END a field B, which is there when B's turn has come.
        has("\\r.$y={A=1|r};?<A{A=r|r}>[Ax.x;Bx.{A={B=1|{}}|{B=2|{}}}]", "({B:I}>{A:{B:I},B:I})");
        faulty("\\r.$y={A=1|r};?<A{A=r|r}>[Ax.x;Bx.{A={B=1|{}}|{}}]", 3, 31, 1);
        // What is within B gives it a field A: A's turn is past, so that the two rows stay unlike.
        String text = "\\r.$y={B=1|r};?<A{B=r|r}>[Ax.x;Bx.{B={A=1|{}}|{}}]";
        RowTypes x = it(text);
        Due.due("the first branch's", Talk.type(x, IT), "({A:I}>{A:I,B:{A:I}})");
        x.part(IT, text.indexOf("{B=r|r}"));
        Due.due("the one", Talk.type(x, ANSWER), "{A:I,B:{A:I}}");
        x.part(IT, text.indexOf("{B={A=1"));
        Due.due("the other one", Talk.type(x, ANSWER), "{B:{A:I}}");
        // And so do functions from and to them.
        text = "\\r.$y={B=1|r};?<A\\z.{B=r|r}>[Ax.x;Bx.\\z.{B={A=1|{}}|{}}]";
        x = it(text);
        Due.due("the first branch's", Talk.type(x, IT), "({A:I}>(a>{A:I,B:{A:I}}))");
        x.part(IT, text.indexOf("\\z.{B={A=1"));
        Due.due("the other one", Talk.type(x, ANSWER), "(a>{B:{A:I}})");
        text = "\\r.$y={B=1|r};?<A\\f.(f{B=r|r})>[Ax.x;Bx.\\f.(f{B={A=1|{}}|{}})]";
        x = it(text);
        Due.due("the first branch's", Talk.type(x, IT), "({A:I}>(({A:I,B:{A:I}}>a)>a))");
        x.part(IT, text.indexOf("\\f.(f{B={A=1"));
        Due.due("the other one", Talk.type(x, ANSWER), "(({B:{A:I}}>a)>a)");
        Due.says(0, "if both are, unlike ones, that of the first ROW becomes the other one, which LACKS what both did.");
        x = it("\\r.\\s.$y={A=1|r};$y={C=1|s};?<Ar>[Ax.x;Bx.s]");
        Due.due("one END", Talk.type(x, IT), "({|a}>({|a}>{|a}))");
        Due.due("A, C", x.lacks(IT, 0), 5);
        Due.says(0, "if just one is a variable, it becomes nothing;");
        has("\\r.$y={A=1|r};?<Ar>[Ax.x;Bx.{}]", "({}>{})");
        has("\\r.$y={A=1|r};?<A{}>[Ax.x;Bx.r]", "({}>{})");
    }

    private static void whichExpressionFirst() {
        Due.says(0, "The first one that is met counts.");
        String bad = "(11)";
        for (String text : new String[] {"(!?)", "$x=!;?", "{A=!|?}", "&!?", "?![Ax.?]", "?<A1>[Ax.!;Bx.?]", "?<A1>[Ax.!;*x.?]"}) {
            int place = text.indexOf('!');
            String at = text.substring(place + 1);
            at = at.substring(0, at.lastIndexOf('?')) + "u" + at.substring(at.lastIndexOf('?') + 1);
            faulty(text.substring(0, place) + bad + at, 2, place, NONE);
            faulty(text.substring(0, place) + "u" + at.replace("u", bad), 1, place, NONE);
        }
        // What is in an expression comes ahead of what it unifies, but for ?: that unifies ahead of its branches.
        faulty("(1u)", 1, 2, NONE);
        faulty("{A=1|u}", 1, 5, NONE);
        faulty("?1[Ax.u]", 2, 0, NONE);
        faulty("?<A1>[Bx.u]", 3, 0, 0);
        faulty("?<A1>[Ax.1;Bx.{};*x.u]", 2, 11, NONE);
        faulty("?<A1>[Ax.1;Bx.2;*x.u]", 1, 19, NONE);
    }

    // ---- SIZE

    private static void sizes() {
        Due.says(0, "7 TOO GREAT: as soon as the TYPE of an EXPRESSION is found, if its SIZE is above 60.");
        Due.due("59", Talk.infers(new RowTypes(), deep(29)), 59);
        Due.due("60", Talk.infers(new RowTypes(), "{A=" + deep(29) + "|{}}"), 60);
        faulty(deep(30), 7, 0, NONE);
        faulty(deep(31), 7, 3, NONE);
        faulty(deep(32), 7, 6, NONE);
        RowTypes x = with("{A=" + deep(29) + "|{}}");
        Due.due("SIZE 60 as a definition", x.size(0), 60);
        Due.due("and by its NAME", Talk.infers(x, "p"), 60);
        Due.due("and as IT", x.size(IT), 60);
        Due.says(0, "SIZE: I, a variable, an END that is one: 1; a function: 1 and both; a record, a variant: 1, "
                + "and its FIELDS' TYPES, and its END.");
        Due.due("I", it("1").size(IT), 1);
        Due.due("a function", it("\\x.1").size(IT), 3);
        Due.due("{}", it("{}").size(IT), 1);
        Due.due("{A:I,B:{}}", it("{A=1|{B={}|{}}}").size(IT), 3);
        Due.due("<A:I|a>", it("<A1>").size(IT), 3);
        x = it("\\r.&r{}");
        x.side(IT, 0);
        Due.due("{|a}", x.size(ANSWER), 2);
        x.closes(ANSWER);
        Due.due("{}", x.size(ANSWER), 1);
        x = it("\\x.x");
        x.side(IT, 0);
        Due.due("a variable", x.size(ANSWER), 1);
    }

    /** Of each kind that can be the first one to be too great: SIZE 60, and 61. */
    private static void tooGreatOfEachKind() {
        Due.says(0, "7 TOO GREAT: as soon as the TYPE of an EXPRESSION is found, if its SIZE is above 60.");
        String p57 = "{A=" + deep(27) + "|{C=1|{}}}", p58 = "{A=" + deep(28) + "|{}}";
        String p59 = "{A=" + deep(28) + "|{C=1|{}}}", p60 = "{A=" + deep(29) + "|{}}";
        size60("\\x.p", p58);
        faulty("\\x.p", 7, 0, NONE, p59);
        faulty("\\y.\\x.p", 7, 3, NONE, p59);
        size60("{A=p|{}}", p59);
        faulty("{A=p|{}}", 7, 0, NONE, p60);
        faulty("#A{A=p|{}}", 7, 2, NONE, p60);
        size60("<Ap>", p58);
        faulty("<Ap>", 7, 0, NONE, p59);
        faulty("?<Ap>[*x.1]", 7, 1, NONE, p59);
        size60("{B=1|p}", p59);
        faulty("{B=1|p}", 7, 0, NONE, p60);
        faulty("{D=2|{B=1|p}}", 7, 5, NONE, p60);
        faulty("{D=2|{B=1|p}}", 7, 0, NONE, p59);
        size60("&p{B=\\x.1|{}}", p57);
        faulty("&p{B=\\x.1|{}}", 7, 0, NONE, p58);
        size60("~AB~BA~ABp", p60);
        size60("(\\x.{A=x|{B=x|{C=1|{}}}}p)", deep(14));
        faulty("(\\x.{A=x|{B=x|{}}}p)", 7, 0, NONE, "{A=" + deep(14) + "|{}}");
        size60("$x=p;x", p60);
        faulty("$x={A=p|{}};1", 7, 3, NONE, p60);
        faulty("$x=1;{A=p|{}}", 7, 5, NONE, p60);
        // Both branches have a type that is small enough; what they have become together is not.
        size60("?<A1>[Ax.\\y.{A=p|{B=y|{C=1|{}}}};Bx.\\y.{A=y|{B=p|{C=1|{}}}}]", deep(9));
        faulty("?<A1>[Ax.\\y.{A=p|{B=y|{C=1|{D=1|{}}}}};Bx.\\y.{A=y|{B=p|{C=1|{D=1|{}}}}}]", 7, 0, NONE, deep(9));
        faulty("\\u.?<A1>[Ax.\\y.{A=p|{B=y|{C=1|{}}}};Bx.\\y.{A=y|{B=p|{C=1|{}}}}]", 7, 0, NONE, deep(9));
    }

    private static void size60(String text, String... definitions) {
        RowTypes x = with(definitions);
        Due.due("SIZE of " + text, Talk.infers(x, text), 60);
        Due.due("and as a definition", Talk.defines(x, text), definitions.length);
    }

    /** A NAME whose type has become great since it was bound. */
    private static void tooGreatLater() {
        Due.says(0, "7 TOO GREAT: as soon as the TYPE of an EXPRESSION is found, if its SIZE is above 60.");
        // z becomes what p is by the second $; y has it twice.
        String text = "?<A1>[Az.1;Bz.$y={A=z|{B=z|{C=1|{}}}};$u=?<Az>[Ax.x;Bx.p];$v=y;1]";
        Due.due("1 + 29 + 29 + 1", Talk.infers(with(deep(14)), text), 1);
        faulty(text, 7, text.indexOf("y;1"), NONE, "{A=" + deep(14) + "|{}}");
        faulty(text.replace("{C=1|{}}", "{C=1|{D=1|{}}}"), 7, text.indexOf("y;1") + 6, NONE, deep(14));
        Due.due("not found again", Talk.infers(with("{A=" + deep(14) + "|{}}"), text.replace("$v=y;", "")), 1);
    }

    // ---- definitions

    private static void defines() {
        Due.says(5, "-300: there are eight (asked behind the signs, ahead of FAULTS).");
        RowTypes x = new RowTypes();
        for (int k = 0; k < 8; k++) {
            Due.due("number " + k, Talk.defines(x, "1"), k);
            Due.due("as many", x.count(0), k + 1);
        }
        Due.due("a ninth", Talk.defines(x, "1"), -300);
        Due.due("a sign that can't stand there", Talk.defines(x, "1!"), -2);
        Due.due("no sign", Talk.defines(x, ""), -1);
        for (String fault : new String[] {"z", "(11)", "#A{}", "{A=1|{A=1|{}}}", "\\x.(xx)", "\\r.&rr", deep(30)}) {
            Due.due("a ninth with a fault", Talk.defines(x, fault), -300);
            Due.due("no ROW", x.count(3), 0);
        }
        Due.due("eight", x.count(0), 8);
        Due.due("room again", x.forgets(7), 1);
        Due.due("with a fault", Talk.defines(x, "(11)"), -2000);
        Due.due("number 7", Talk.defines(x, "{}"), 7);
        Due.due("a ninth", Talk.defines(x, "1"), -300);
        Due.says(5, "(IT stays)");
        x = it("{}");
        Talk.defines(x, "1");
        Due.due("IT", Talk.type(x, IT), "{}");
        x = new RowTypes();
        Talk.defines(x, "1");
        Due.due("no IT", x.count(1), 0);
    }

    private static void forgets() {
        Due.says(6, "DEFINITIONS from number k on go, and IT, if one of their NAMES is free in it: how many DEFINITIONS.");
        for (int used = 0; used < 8; used++) {
            for (int k = 0; k <= 8; k++) {
                RowTypes x = it(String.valueOf((char) ('p' + used)), "1", "1", "1", "1", "1", "1", "1", "1");
                Due.due("forgets " + k, x.forgets(k), 8 - k);
                Due.due("left", x.count(0), k);
                Due.due("IT with number " + used, x.count(1), used < k ? 1 : 0);
                Due.due("the last one that stays", x.size(k - 1) == NONE, k == 0 && used >= k);
                Due.due("the first one that goes", x.size(k), NONE);
                Due.due("its NAME", Talk.infers(x, String.valueOf((char) ('p' + k))), -1000);
            }
        }
        for (String bound : new String[] {"\\p.p", "$p=1;p", "?<A1>[Ap.p]", "?<A1>[*p.1]", "\\p.\\q.(pq)"}) {
            RowTypes x = it(bound, "1", "2");
            Due.due("a NAME that is bound in " + bound, x.forgets(0), 2);
            Due.due("IT stays", x.count(1), 1);
            Due.due("IT is worked out", x.steps(IT) > 0, true);
        }
        for (String free : new String[] {"{A=\\p.p|{B=p|{}}}", "$p=p;p", "?<Ap>[Ap.p]", "?<A1>[Ap.p;*q.p]", "\\q.p"}) {
            RowTypes x = it(free, "1", "2");
            Due.due("q goes", x.forgets(1), 1);
            Due.due("IT stays", x.count(1), 1);
            Due.due("a NAME that is free in " + free, x.forgets(0), 1);
            Due.due("IT goes", x.count(1), 0);
        }
        // A definition within that IT uses goes by another one: that one's name is not free in IT.
        RowTypes x = it("q", "1", "p", "2");
        Due.due("r", x.forgets(2), 1);
        Due.due("IT stays", x.count(1), 1);
        Due.says(6, "NONE: k is below 0; no such one (k may be as many as there are: 0).");
        for (int n = 0; n <= 8; n++) {
            x = new RowTypes();
            for (int i = 0; i < n; i++) {
                Talk.defines(x, "1");
            }
            Due.due("-1 of " + n, x.forgets(-1), NONE);
            Due.due("least of " + n, x.forgets(LEAST), NONE);
            Due.due("one more of " + n, x.forgets(n + 1), NONE);
            Due.due("most of " + n, x.forgets(MOST), NONE);
            Due.due("all stay", x.count(0), n);
            Due.due("as many as there are", x.forgets(n), 0);
            Due.due("all stay", x.count(0), n);
            Due.due("all go", x.forgets(0), n);
        }
    }

    /** Which w there are: the first and the last one that is taken, and those beside. */
    private static void which() {
        Due.says(0, "w: an EXPRESSION with its TYPE: NONE: IT (at first none), 0 ..: a DEFINITION, -2: THE ANSWER (no EXPRESSION).");
        for (int n = 0; n <= 8; n++) {
            for (int state = 0; state < 4; state++) {
                RowTypes x = new RowTypes();
                for (int i = 0; i < n; i++) {
                    Talk.defines(x, "\\r.#Ar");
                }
                Talk.infers(x, "\\x.x");
                if ((state & 1) == 0) {
                    x = new RowTypes();
                    for (int i = 0; i < n; i++) {
                        Talk.defines(x, "\\r.#Ar");
                    }
                }
                if ((state & 2) != 0) {
                    x.closes((state & 1) != 0 ? IT : 0);
                }
                for (int w = -4; w <= 9; w++) {
                    boolean type = w == IT ? x.count(1) == 1 : w == ANSWER ? x.count(2) == 1 : w >= 0 && w < n;
                    boolean text = type && w != ANSWER;
                    Due.due("type of " + w + " of " + n, x.size(w) != NONE, type);
                    Due.due("type of " + w + " of " + n, x.sort(w) != NONE, type);
                    Due.due("text of " + w + " of " + n, x.parts(w) != NONE, text);
                    Due.due("value of " + w + " of " + n, x.steps(w) != NONE, text);
                }
                for (int w : new int[] {LEAST, LEAST + 1, -300, 100, MOST - 1, MOST}) {
                    Due.due("type of " + w, x.size(w), NONE);
                    Due.due("text of " + w, x.parts(w), NONE);
                }
            }
        }
    }

    // ---- types

    /** A record of as many variables as a type can have, by part(). */
    private static RowTypes withManyVariables() {
        RowTypes x = with("\\r." + takes("r", "1", ALL_FIELDS),
                "\\s.$x=(p#As);$x=(p#Bs);$x=(p#Cs);$x=(p#Ds);$x=(p#Es);1");
        Due.due("infers", Talk.infers(x, MANY), 1);
        Due.due("part", x.part(IT, MANY.indexOf("r);")), 60);
        return x;
    }

    private static void manyVariables() {
        Due.says(0, "variables by the order in which they come first: a .. z, then a1 .. z1, a2 ..");
        RowTypes x = withManyVariables();
        StringBuilder s = new StringBuilder("{");
        int next = 0;
        for (int i = 0; i < 8; i++) {
            s.append(i == 0 ? "" : ",").append((char) ('A' + i)).append(':');
            int within = i < 5 ? 8 : i == 5 ? 4 : 0;
            for (int k = 0; k < within; k++) {
                s.append(k == 0 ? "{" : ",").append((char) ('A' + k)).append(':').append(name(next++));
            }
            s.append(within == 0 ? "" : "|").append(name(next++)).append(within == 0 ? "" : "}");
        }
        s.append('|').append(name(next++)).append('}');
        Due.due("written", Talk.type(x, ANSWER), s.toString());
        Due.due("the last one", s.toString().endsWith(",G:y1,H:z1|a2}"), true);
        Due.says(7, "the ROW: how many variables, how many of these are row variables.");
        Due.due("size", x.size(ANSWER), 60);
        Due.due("the ROW", Talk.row(x), "53 7");
        Due.says(9, "LACKS (bits) of variable k (0 .. : by the order in which they come) of the TYPE of w.");
        Due.due("the first one", x.lacks(ANSWER, 0), -2);
        Due.due("the ninth one", x.lacks(ANSWER, 8), 255);
        Due.due("that of F", x.lacks(ANSWER, 49), 15);
        Due.due("z1", x.lacks(ANSWER, 51), -2);
        Due.due("a2", x.lacks(ANSWER, 52), 255);
        Due.due("behind", x.lacks(ANSWER, 53), NONE);
    }

    /** Great types with new variables each time, as often as a text can tell. */
    private static void manyTypes() {
        Due.says(0, "its TYPE with new variables (which LACK the same)");
        RowTypes x = withManyVariables();
        Due.due("infers", Talk.infers(x, "q"), 54);
        String written = Talk.type(x, IT);
        for (int n = 1; n <= 19; n++) {
            String before = "$x=q;".repeat(n);
            x = withManyVariables();
            Due.due("q, " + n + " times", Talk.infers(x, before + "1"), 1);
            Due.due("part of the first one", x.part(IT, 3), 54);
            Due.due("part of the last one", x.part(IT, 5 * n - 2), 54);
            Due.due("the last one", Talk.type(x, ANSWER), written);
            Due.due("LACKS of the last one's END", x.lacks(ANSWER, 45), 31);
            greatBehind(before.substring(5), written, "q");
            greatBehind(before.substring(5), written, "\\r.(qr)");
            greatBehind(before, written, "x");
            x = withManyVariables();
            Due.due("a fault behind " + n, Talk.infers(x, before.substring(5) + "(q{})"), -3000 - 5 * (n - 1));
        }
        // As many as can be are unified with one another.
        for (int n = 0; n <= 11; n++) {
            greatBehind("\\r." + "$x=(qr);".repeat(n), written, n < 11 ? "$x=(qr);1" : "(qr)");
        }
    }

    private static void greatBehind(String before, String written, String text) {
        RowTypes x = withManyVariables();
        Due.due(before + text, Talk.infers(x, before + text), 54);
        Due.due(before + text, Talk.type(x, IT), written);
    }

    private static String name(int k) {
        return (char) ('a' + k % 26) + (k < 26 ? "" : String.valueOf(k / 26));
    }

    private static void type() {
        Due.says(8, "Sign i of the TYPE of w, WRITTEN; i NONE: how many signs. NONE: none such.");
        RowTypes x = it("\\x.<Ax>");
        String written = "(a><A:a|b>)";
        Due.due("how many", x.type(IT, NONE), written.length());
        for (int i = 0; i < written.length(); i++) {
            Due.due("sign " + i, x.type(IT, i), written.charAt(i));
        }
        for (int i : new int[] {LEAST, -1000, -2, written.length(), 60, 1000, MOST}) {
            Due.due("sign " + i, x.type(IT, i), NONE);
        }
        x = it("1");
        Due.due("one sign", x.type(IT, NONE), 1);
        Due.due("sign 0", x.type(IT, 0), 'I');
        Due.due("sign 1", x.type(IT, 1), NONE);
        Due.says(0, "WRITTEN, without blanks: TYPES:");
        has("{}", "{}");
        has("\\v.?v[*x.1]", "(<|a>>I)");
        has("\\r.&r{}", "({|a}>{|a})");
        has("{B=1|{A=2|{}}}", "{A:I,B:I}");
        has("\\v.?v[Bx.1;Ax.2]", "(<A:a,B:b>>I)");
        x = it("\\v.?v[*x.1]");
        x.closes(IT);
        Due.due("no variant at all", Talk.type(x, ANSWER), "(<>>I)");
    }

    private static void lacks() {
        Due.says(9, "-2: it is no row variable; NONE: none such.");
        RowTypes x = it("\\r.~AC-Br");
        Due.due("({A:a,B:b|c}>{C:a|c})", x.lacks(IT, 0), -2);
        Due.due("({A:a,B:b|c}>{C:a|c})", x.lacks(IT, 1), -2);
        Due.due("({A:a,B:b|c}>{C:a|c})", x.lacks(IT, 2), 7);
        for (int k : new int[] {LEAST, -2, -1, 3, 4, 61, MOST}) {
            Due.due("variable " + k, x.lacks(IT, k), NONE);
        }
        Due.due("no variables", it("1").lacks(IT, 0), NONE);
        Due.due("no variables", it("1").lacks(IT, -1), NONE);
        Due.due("LACKS nothing", it("\\r.&r{}").lacks(IT, 0), 0);
        Due.due("LACKS all", it("\\r." + takes("r", "1", ALL_FIELDS)).lacks(IT, 8), 255);
        for (int label = 0; label < 8; label++) {
            String l = ALL_FIELDS[label], other = ALL_FIELDS[(label + 1) % 8];
            Due.due("{A=E|F}", it("\\r.{" + l + "=1|r}").lacks(IT, 0), 1 << label);
            Due.due("#", it("\\r.#" + l + "r").lacks(IT, 1), 1 << label);
            Due.due("-", it("\\r.-" + l + "r").lacks(IT, 1), 1 << label);
            Due.due("~", it("\\r.~" + l + other + "r").lacks(IT, 1), 1 << label | 1 << (label + 1) % 8);
            Due.due("<>", it("<" + l + "1>").lacks(IT, 0), 1 << label);
            Due.due("&", it("\\r.&r{" + l + "=1|{}}").lacks(IT, 0), 1 << label);
            Due.due("&", it("\\r.&{" + l + "=1|{}}r").lacks(IT, 0), 1 << label);
            Due.due("?", it("\\v.?v[" + l + "x.1;*y.2]").lacks(IT, 1), 1 << label);
        }
    }

    private static void sort() {
        Due.says(10, "What the TYPE of w is, 0: I, 1: a function, 2: a record, 3: a variant, 4: a variable;");
        RowTypes x = it("{A=1|{B=\\x.x|{C={}|{D=<A1>|{}}}}}");
        int[] sorts = {0, 1, 2, 3};
        for (int label = 0; label < 4; label++) {
            x.field(IT, label);
            Due.due("field " + label, x.sort(ANSWER), sorts[label]);
        }
        Due.says(10, "LABELS (bits), 1 if its END is a variable, else 0, LACKS of that (0 without); of others none.");
        String[] rows = {"", "", "0 0 0", "1 1 1"};
        for (int label = 0; label < 4; label++) {
            x.parts(IT);
            x.field(IT, label);
            x.sort(ANSWER);
            Due.due("the ROW of field " + label, Talk.row(x), rows[label]);
        }
        x = it("\\x.x");
        x.side(IT, 0);
        x.parts(IT);
        Due.due("a variable", x.sort(ANSWER), 4);
        Due.due("no ROW", x.count(3), 0);
        x = it("\\r.&r{}");
        x.side(IT, 0);
        x.sort(ANSWER);
        Due.due("{|a}", Talk.row(x), "0 1 0");
        x = it("\\r.~HA" + "{C=1|r}");
        x.side(IT, 1);
        x.sort(ANSWER);
        Due.due("{A,C|b}", Talk.row(x), "5 1 133");
        x = it("{A=1|{B=1|{C=1|{D=1|{E=1|{F=1|{G=1|{H=1|{}}}}}}}}}");
        x.sort(IT);
        Due.due("all", Talk.row(x), "255 0 0");
    }

    private static void needs() {
        Due.says(11, "If the TYPE of w is a function from a record: 0; from a variant: 1;");
        needs("\\r.&r{}", 0, "0 1 0");
        needs("\\r.{A=1|r}", 0, "0 1 1");
        needs("\\r.#Hr", 0, "128 1 128");
        needs("\\r.~HAr", 0, "128 1 129");
        needs("\\r.?<Ar>[Ax.x;By.{}]", 0, "0 0 0");
        needs("\\v.?v[*x.1]", 1, "0 1 0");
        needs("\\v.?v[Ax.1;Hy.2]", 1, "129 0 0");
        needs("\\v.?v[Ax.1;*y.2]", 1, "1 1 1");
        Due.says(11, "-2: it is no such one;");
        for (String text : new String[] {"1", "{A=1|{}}", "<A1>", "\\x.x", "\\f.(f1)", "\\x.?<Ax>[Ay.y;By.1]", "\\x.\\r.#Ar"}) {
            needs(text, -2, "1 1 0 0 0 0 0 0 0 0 0");
        }
        RowTypes x = it("\\x.x");
        x.side(IT, 0);
        Due.due("a variable", x.needs(ANSWER), -2);
    }

    private static void needs(String text, int answer, String row) {
        RowTypes x = it(text, "1");
        x.parts(0);
        if (answer == -2) {
            row = Talk.row(x);
        }
        Due.due("needs of " + text, x.needs(IT), answer);
        Due.due("the ROW of " + text, Talk.row(x), row);
    }

    private static void field() {
        Due.says(12, "-2: it is none, or has none such; NONE: none such, no such LABEL.");
        for (String text : new String[] {"{B=1|{H={}|{}}}", "?<B1>[Bx.<Bx>;*x.<H{}>]"}) {
            for (int label = -2; label <= 9; label++) {
                RowTypes x = it(text);
                int answer = label < 0 || label > 7 ? NONE : label == 1 || label == 7 ? 1 : -2;
                Due.due("label " + label + " of " + text, x.field(IT, label), answer);
                Due.due("THE ANSWER", Talk.type(x, ANSWER), label == 1 ? "I" : label == 7 ? "{}" : "");
            }
        }
        for (String text : new String[] {"1", "\\r.#Br"}) {
            for (int label = -2; label <= 9; label++) {
                Due.due("label " + label + " of " + text, it(text).field(IT, label), label < 0 || label > 7 ? NONE : -2);
            }
            Due.due("the least label", it(text).field(IT, LEAST), NONE);
            Due.due("the greatest label", it(text).field(IT, MOST), NONE);
        }
        RowTypes x = it("\\x.x");
        x.side(IT, 0);
        Due.due("a variable", x.field(ANSWER, 0), -2);
    }

    private static void side() {
        Due.says(13, "-2: it is none; NONE: none such, another which.");
        RowTypes x = it("\\x.{A=x|{}}");
        for (int which : new int[] {LEAST, -2, -1, 2, 3, MOST}) {
            Due.due("which " + which, x.side(IT, which), NONE);
        }
        Due.due("no ANSWER", x.count(2), 0);
        Due.due("from", x.side(IT, 0), 1);
        Due.due("from", Talk.type(x, ANSWER), "a");
        Due.due("to", x.side(IT, 1), 2);
        Due.due("to", Talk.type(x, ANSWER), "{A:a}");
        for (String text : new String[] {"1", "{A=\\x.x|{}}", "<A\\x.x>"}) {
            for (int which = -1; which <= 2; which++) {
                Due.due("which " + which + " of " + text, it(text).side(IT, which), which == 0 || which == 1 ? -2 : NONE);
            }
        }
        x = it("\\x.x");
        x.side(IT, 0);
        Due.due("a variable", x.side(ANSWER, 0), -2);
        Due.due("a variable", x.side(ANSWER, 1), -2);
        Due.due("a variable", x.side(ANSWER, 2), NONE);
    }

    private static void closes() {
        Due.says(14, "THE ANSWER becomes the TYPE of w, all ENDS that are variables having become nothing: SIZE.");
        String[][] pairs = {{"1", "I"}, {"\\x.x", "(a>a)"}, {"<A1>", "<A:I>"}, {"\\r.&r{}", "({}>{})"},
            {"\\v.?v[Ax.x;*y.1]", "(<A:I>>I)"}, {"\\r.\\s.{A=#Ar|{B=#Bs|{}}}", "({A:a}>({B:b}>{A:a,B:b}))"}};
        for (String[] pair : pairs) {
            RowTypes x = it(pair[0]);
            int before = x.size(IT);
            long ends = x.row(1);
            Due.due("closes " + pair[0], x.closes(IT) <= before - ends, true);
            Due.due("closes " + pair[0], Talk.type(x, ANSWER), pair[1]);
            x.size(ANSWER);
            Due.due("no ENDS", x.row(1), 0);
        }
    }

    private static void fits() {
        Due.says(15, "1 if the TYPE of w, with new variables, and it can be UNIFIED, else 0.");
        RowTypes x = it("\\r.{A=1|-Br}");
        Due.due("({B:a|b}>{A:I|b})", Talk.fits(x, IT, "({B:I}>{A:I})"), 1);
        Due.due("wider", Talk.fits(x, IT, "({C:<>,B:I}>{C:<>,A:I})"), 1);
        Due.due("wider on one side", Talk.fits(x, IT, "({C:<>,B:I}>{A:I})"), 0);
        Due.due("without B", Talk.fits(x, IT, "({}>{A:I})"), 0);
        Due.due("what it must not be given", Talk.fits(x, IT, "({A:I,B:I}>{A:I})"), 0);
        Due.due("with B twice", Talk.fits(x, IT, "({B:I}>{A:I,B:I})"), 0);
        Due.due("no variable is left behind", Talk.type(x, IT), "({B:a|b}>{A:I|b})");
        Due.due("again", Talk.fits(x, IT, "({B:{}}>{A:I})"), 1);
        Due.says(15, "NONE: none such w (THE TEXT is empty then, too).");
        for (int w : new int[] {LEAST, -3, ANSWER, 0, MOST}) {
            Due.due("fits " + w, Talk.fits(x, w, "({B:I}>{A:I})"), NONE);
            Due.due("the text", x.count(4), 0);
            Due.due("fits " + w + " of what can't stand there", Talk.fits(x, w, "(}"), NONE);
            Due.due("the text", x.count(4), 0);
        }
        Due.due("nothing changed", Talk.fits(x, IT, "({B:I}>{A:I})"), 1);
        x.closes(IT);
        Due.due("THE ANSWER", Talk.fits(x, ANSWER, "({B:I}>{A:I})"), 1);
        Due.due("THE ANSWER", Talk.fits(x, ANSWER, "({B:I,C:I}>{A:I,C:I})"), 0);
    }

    private static void above() {
        Due.says(16, "(that have no LABELS they LACK, and whose ENDS LACK these, too)");
        // {|a} LACKS A. Rows without A may stand for it, those with A may not.
        above("\\r.-A{A=1|r}", "\\r.-A{A=1|{B=#Br|-Br}}", 1, 0);
        above("\\r.-A{A=1|r}", "\\r.{A=#Ar|-Ar}", 0, 0);
        above("\\r.-A{A=1|r}", "\\r.?<Ar>[Ax.x;*y.{}]", 1, 0);
        above("\\r.-A{A=1|r}", "\\r.?<Ar>[Ax.x;*y.{B=1|{}}]", 1, 0);
        above("\\r.-A{A=1|r}", "\\r.?<Ar>[Ax.x;*y.{A=1|{}}]", 0, 0);
        // An END may stand for one that LACKS no more than it does.
        above("\\r.-A{A=1|r}", "\\r.&r{}", 0, 1);
        above("\\r.-A{A=1|r}", "\\r.-A{A=2|r}", 1, 1);
        above("\\r.-A{A=1|r}", "\\r.-A{A=1|-B{B=1|r}}", 1, 0);
        above("\\r.-A{A=1|r}", "\\r.-B{B=1|r}", 0, 0);
        above("\\r.-A{A=1|r}", "\\r.{B=#Br|-Br}", 0, 0);
        Due.says(16, "with TYPES for its variables and ROWS for its ENDS");
        above("\\x.x", "\\x.?<Ax>[Ay.y;*z.1]", 1, 0);
        above("\\x.\\y.1", "\\x.\\y.?<Ax>[Az.1;*u.?<Ay>[Az.1;*u.1]]", 1, 1);
        above("\\x.\\y.1", "\\x.\\y.?<A?<Ax>[Az.z;*u.y]>[Az.1;*u.1]", 1, 0);
        above("1", "1", 1, 1);
        above("1", "{}", 0, 0);
        above("{}", "<A1>", 0, 0);
        above("\\x.1", "1", 0, 0);
        above("<A1>", "?<A1>[Ax.<Ax>;*y.<B2>]", 1, 0);
        Due.says(16, "the ROW: 1 if that of b is as general as that of a, else 0.");
        RowTypes x = with("\\x.x", "\\r.&r{}");
        x.parts(0);
        Due.due("the one", x.above(0, 1), 1);
        Due.due("the ROW", Talk.row(x), "0");
        Due.due("the other one", x.above(1, 0), 0);
        Due.due("the ROW", Talk.row(x), "1");
        Due.says(16, "NONE: no such ones.");
        for (int w : new int[] {LEAST, -3, ANSWER, IT, 2, MOST}) {
            Due.due("above " + w + " 0", x.above(w, 0), NONE);
            Due.due("above 0 " + w, x.above(0, w), NONE);
            Due.due("above " + w, x.above(w, w), NONE);
            Due.due("the ROW", Talk.row(x), "1");
        }
    }

    private static void above(String a, String b, int there, int back) {
        RowTypes x = with(a, b);
        Due.due(a + " above " + b, x.above(0, 1), there);
        Due.due("the ROW: " + b + " above " + a, Talk.row(x), String.valueOf(back));
        Due.due(b + " above " + a, x.above(1, 0), back);
        Due.due("the ROW: " + a + " above " + b, Talk.row(x), String.valueOf(there));
    }

    /** The END of a record is that of one within it: it must be the same ROW in both. */
    private static void aboveRowsWithinRows() {
        Due.says(16, "it is that of b: 1, else 0;");
        for (String l : new String[] {"A", "B", "C"}) {
            String m = l.equals("B") ? "A" : "B";
            RowTypes x = with("\\r.{" + l + "=r|r}", "{" + l + "={" + m + "=1|{}}|{}}",
                    "{" + l + "={" + m + "=1|{}}|{" + m + "=1|{}}}", "{" + l + "={}|{}}", "{" + l + "={}|{" + m + "=1|{}}}");
            int[] due = {0, 1, 1, 0};
            for (int k = 0; k < 4; k++) {
                x.side(0, 1);
                Due.due("{" + l + ":{|a}|a} above number " + (k + 1), x.above(ANSWER, k + 1), due[k]);
                Due.due("the ROW", Talk.row(x), "0");
            }
        }
    }

    private static void meets() {
        Due.says(17, "A FAULT (7, too); NONE: no such ones.");
        // -1000 times its number, less 0: what is unified is not of a text. There are no NAMES and no &: not 1, not 6.
        RowTypes x = with("{}", "1", "\\x.x", "\\x.<Ax>", "\\r.{H=1|r}", "\\r.#Hr", "<A1>", "{A=1|{}}");
        meets(x, 0, 1, -2000, NONE);
        meets(x, 1, 0, -2000, NONE);
        meets(x, 0, 6, -2000, NONE);
        meets(x, 0, 7, -3000, 0);
        meets(x, 7, 0, -3000, 0);
        meets(x, 4, 5, -4000, 7);
        meets(x, 5, 4, -4000, 7);
        meets(x, 2, 3, -5000, NONE);
        meets(x, 3, 2, -5000, NONE);
        Due.due("no ANSWER", x.count(2), 0);
        Due.due("no fault", x.meets(2, 2), 3);
        meets(x, ANSWER, 3, -5000, NONE);
        Due.due("THE ANSWER stays", Talk.type(x, ANSWER), "(a>a)");
        Due.due("with itself", x.meets(5, 5), 5);
        Due.due("written", Talk.type(x, ANSWER), "({H:a|b}>a)");
        for (int w : new int[] {LEAST, -3, IT, 8, 9, MOST}) {
            Due.due("meets " + w + " 0", x.meets(w, 0), NONE);
            Due.due("meets 0 " + w, x.meets(0, w), NONE);
            Due.due("applies " + w + " 0", x.applies(w, 0), NONE);
            Due.due("applies 0 " + w, x.applies(0, w), NONE);
            Due.due("the ROW stays", Talk.row(x), "-1");
        }
        Due.says(17, "TYPES of a and b, both with new variables, are UNIFIED (the first that of a)");
        // By labels: what is MISSING in the one, then in the other one.
        x = with("{A=1|{C=1|{}}}", "{B=1|{C={}|{}}}");
        meets(x, 0, 1, -3000, 0);
        meets(x, 1, 0, -3000, 0);
        x = with("\\x.\\y.x", "\\x.\\y.y");
        Due.due("the same variables no more", x.meets(0, 1), 5);
        Due.due("written", Talk.type(x, ANSWER), "(a>(a>a))");
        Due.due("the others stay", Talk.type(x, 0) + Talk.type(x, 1), "(a>(b>a))(a>(b>b))");
    }

    private static void meets(RowTypes x, int a, int b, int answer, int label) {
        x.parts(0);
        Due.due("meets " + a + " " + b, x.meets(a, b), answer);
        Due.due("the ROW of meets " + a + " " + b, Talk.row(x), String.valueOf(label));
    }

    private static void meetsTooGreat() {
        Due.says(17, "A FAULT (7, too);");
        // (a>{A:19,B:a,C:I}) and (a>{A:a,B:19,C:I}) have become (19>{A:19,B:19,C:I}).
        for (String more : new String[] {"", "{D=1|"}) {
            String rest = more + "{C=1|{}}" + (more.isEmpty() ? "" : "}");
            RowTypes x = with("\\y.{A=" + deep(9) + "|{B=y|" + rest + "}}", "\\y.{A=y|{B=" + deep(9) + "|" + rest + "}}");
            int due = more.isEmpty() ? 60 : -7000;
            Due.due("meets", x.meets(0, 1), due);
            Due.due("meets", x.meets(1, 0), due);
            Due.due("THE ANSWER", x.size(ANSWER), more.isEmpty() ? 60 : NONE);
        }
        RowTypes x = with("\\y.{A=" + deep(9) + "|{B=y|{C=1|{D=1|{}}}}}", "\\y.{A=y|{B=" + deep(9) + "|{C=1|{D=1|{}}}}}");
        x.closes(0);
        meets(x, 0, 1, -7000, NONE);
        Due.due("THE ANSWER stays", x.size(ANSWER), 25);
        // {A:a|b} and {A:59}: 60.
        x = with("\\r.#Ar", "{A=" + deep(29) + "|{}}");
        x.side(0, 0);
        Due.due("60", x.meets(ANSWER, 1), 60);
        x.side(0, 0);
        Due.due("60", x.meets(1, ANSWER), 60);
        Due.says(18, "A FAULT;");
        x = with("\\x.{A=x|{}}", "{A=" + deep(29) + "|{}}", deep(29), "\\x.{A=x|{B=1|{}}}", "\\x.x", "\\x.1");
        Due.due("59 and 1", x.applies(0, 2), 60);
        applies(x, 3, 2, -7000, NONE);
        applies(x, 0, 1, -7000, NONE);
        Due.due("THE ANSWER stays", x.size(ANSWER), 60);
        Due.due("60 as it is", x.applies(4, 1), 60);
        Due.due("what it is to alone counts", x.applies(5, 1), 1);
    }

    private static void applies() {
        Due.says(18, "A FAULT; NONE: no such ones.");
        RowTypes x = with("{}", "1", "\\x.x", "\\r.#Hr", "\\r.{H=1|r}", "{H=1|{}}", "\\f.\\x.?<Ax>[Ay.(fy);By.x]", "\\x.<Ax>");
        applies(x, 0, 0, -2000, NONE);
        applies(x, 1, 2, -2000, NONE);
        applies(x, 3, 1, -2000, NONE);
        applies(x, 3, 0, -3000, 7);
        applies(x, 4, 5, -4000, 7);
        applies(x, 6, 7, -5000, NONE);
        Due.due("no ANSWER", x.count(2), 0);
        Due.due("no fault", x.applies(3, 5), 1);
        Due.due("no fault", x.applies(4, 0), 2);
        Due.due("no fault", x.applies(6, 2), 3);
        applies(x, 3, 0, -3000, 7);
        Due.due("THE ANSWER stays", Talk.type(x, ANSWER), "(a>a)");
        Due.due("a variable as a function", x.side(2, 0), 1);
        Due.due("a variable as a function", x.applies(ANSWER, 1), 1);
        Due.due("written", Talk.type(x, ANSWER), "a");
        Due.says(18, "with new variables");
        Due.due("(r r)", x.applies(2, 2), 3);
        Due.due("THE ANSWER of itself", x.applies(ANSWER, ANSWER), 3);
    }

    private static void applies(RowTypes x, int a, int b, int answer, int label) {
        x.parts(0);
        Due.due("applies " + a + " " + b, x.applies(a, b), answer);
        Due.due("the ROW of applies " + a + " " + b, Talk.row(x), String.valueOf(label));
    }

    private static void part() {
        Due.says(19, "-2: none begins there; NONE: none such w.");
        String text = "$f=\\r.~AB-C&r{D=1|{}};?<A#B{B=1|{}}>[Ax.(\\y.yx);*z.2]";
        int[] places = {0, 3, 6, 9, 11, 12, 13, 16, 18, 22, 23, 25, 27, 30, 32, 40, 41, 44, 45, 51};
        RowTypes x = it(text);
        StringBuilder marks = new StringBuilder(" ".repeat(text.length()));
        for (int place : places) {
            marks.setCharAt(place, '1');
        }
        for (int place = -3; place <= text.length() + 3; place++) {
            boolean first = place >= 0 && place < text.length() && marks.charAt(place) == '1';
            Due.due("part " + place + " of " + text, x.part(IT, place) > 0, first);
            if (!first) {
                Due.due("part " + place + " of " + text, x.part(IT, place), -2);
            }
        }
        Due.due("as many as there are", x.parts(IT), places.length);
        for (int place : new int[] {LEAST, -100, 99, 100, 101, 1000, MOST}) {
            Due.due("part " + place, x.part(IT, place), -2);
            Due.due("part of none " + place, x.part(0, place), NONE);
            Due.due("part of THE ANSWER " + place, x.part(ANSWER, place), NONE);
        }
        Due.says(19, "has in the end: SIZE.");
        x = it("\\x.{A=x|{B=(x1)|{}}}");
        Due.due("x", x.part(IT, 6), 3);
        Due.due("x in the end", Talk.type(x, ANSWER), "(I>a)");
        x = with("\\x.x");
        Talk.infers(x, "(p1)");
        Due.due("p where it is used", x.part(IT, 1), 3);
        Due.due("written", Talk.type(x, ANSWER), "(I>I)");
        Due.due("of a definition", x.part(0, 0), 3);
        Due.due("written", Talk.type(x, ANSWER), "(a>a)");
    }

    private static void partTooGreat() {
        Due.says(19, "-7000: that is above 60 (no FAULT: the ROW stays);");
        RowTypes x = withManyVariables();
        Due.due("60", x.size(ANSWER), 60);
        // One field more, and the NAME is not found again: 61.
        String text = MANY.replace("1]", "$x=#E#Fr;1]");
        Due.due("infers", Talk.infers(x, text), 1);
        x.closes(0);
        x.parts(0);
        String before = Talk.row(x);
        String answer = Talk.type(x, ANSWER);
        Due.due("61", x.part(IT, text.indexOf("r);")), -7000);
        Due.due("61", x.part(IT, text.indexOf("r;1]")), -7000);
        Due.due("the ROW stays", Talk.row(x), before);
        Due.due("THE ANSWER stays", Talk.type(x, ANSWER), answer);
        Due.due("the whole", x.part(IT, 0), 1);
        Due.says(0, "7 TOO GREAT: as soon as the TYPE of an EXPRESSION is found, if its SIZE is above 60.");
        text = text.replace("1]", "$x=r;1]");
        Due.due("found again: 61", Talk.infers(x, text), -7000 - text.indexOf("r;1]"));
        Due.due("found again: 60", Talk.infers(x, MANY.replace("1]", "$x=r;1]")), 1);
    }

    // ---- values

    private static void steps() {
        Due.says(20, "-2: more than 500; NONE: none such.");
        RowTypes x = with("{A=1|{B=1|{C=1|{D=1|{E=1|{F=1|{G=1|{}}}}}}}}", "#Ap",
                "{A=q|{B=q|{C=q|{D=q|{E=q|{F=q|{G=q|{}}}}}}}}", "{A=#Ar|{B=#Ar|{C=#Ar|{}}}}");
        Due.due("15", x.steps(0), 15);
        Due.due("17", x.steps(1), 17);
        Due.due("134", x.steps(2), 134);
        Due.due("412", x.steps(3), 412);
        String most = "{A=s|{B=q|{C=q|{D=q|{E=p|{F=1|{G=(\\x.x1)|{H=!|{}}}}}}}}}";
        // With a number it is 498.
        String[] more = {"1", "<A1>", "<A<A1>>", "<A<A<A1>>>", "<A<A<A<A1>>>>"};
        for (int k = 0; k < more.length; k++) {
            Due.due("infers", Talk.infers(x, most.replace("!", more[k])) > 0, true);
            x.size(0);
            Due.due("steps " + (498 + k), x.steps(IT), 498 + k > 500 ? -2 : 498 + k);
            Due.due("the ROW", Talk.row(x), 498 + k > 500 ? "0 0" : "2 255");
            Due.due("how many signs", x.value(IT, NONE) > 0, 498 + k <= 500);
            Due.due("value", x.value(IT, 0), 498 + k > 500 ? -2 : '{');
            Due.due("value behind", x.value(IT, MOST), 498 + k > 500 ? -2 : NONE);
            Due.due("value far below", x.value(IT, LEAST), NONE);
            Due.due("taken", x.taken(IT, 0), 498 + k > 500 ? -2 : 2);
            Due.due("taken of no LABEL", x.taken(IT, 8), NONE);
            Due.due("taken of no LABEL", x.taken(IT, -1), NONE);
            Due.due("as a definition", Talk.defines(x, most.replace("!", more[k])), 4);
            Due.due("steps " + (498 + k), x.steps(4), 498 + k > 500 ? -2 : 498 + k);
            x.forgets(4);
        }
        Due.says(20, "(0 .. 3 as sort()), the number (of a record LABELS as bits, of a variant its LABEL, of a function NONE).");
        String[][] values = {{"0", "0 0"}, {"9", "0 9"}, {"\\x.x", "1 -1"}, {"{}", "2 0"}, {"{H=1|{A=2|{}}}", "2 129"},
            {"<A1>", "3 0"}, {"<H1>", "3 7"}, {"&{}{}", "2 0"}, {"&{B=1|{}}{H=2|{}}", "2 130"}, {"-B{A=1|{B=2|{}}}", "2 1"},
            {"-A{A=1|{}}", "2 0"}, {"~AH{A=1|{}}", "2 128"}};
        for (String[] v : values) {
            x = it(v[0]);
            x.steps(IT);
            Due.due("the ROW of " + v[0], Talk.row(x), v[1]);
            x = it("{C=" + v[0] + "|{}}");
            Due.due("taken from a record", x.taken(IT, 2), v[1].charAt(0) - '0');
            Due.due("the ROW", Talk.row(x), v[1].substring(2));
            x = it("<C" + v[0] + ">");
            Due.due("taken from a variant", x.taken(IT, 2), v[1].charAt(0) - '0');
            Due.due("the ROW", Talk.row(x), v[1].substring(2));
        }
    }

    private static void stepsOfEachKind() {
        Due.says(0, "each EXPRESSION that is worked out is a STEP");
        String[] texts = {"1", "\\x.(x1)", "{}", "{A=1|{}}", "#A{A=1|{}}", "-A{A=1|{}}", "~AB{A=1|{}}", "&{}{}", "<A1>",
            "$x=1;2", "$x=1;x", "(\\x.12)", "(\\x.x2)", "?<A1>[Ax.2]", "?<A1>[Ax.x;*y.(\\x.x3)]",
            "?<A1>[Bx.(\\x.xx);*y.3]", "p", "{A=p|{B=p|{}}}", "q", "(r1)"};
        int[] due = {1, 1, 1, 3, 4, 4, 4, 3, 2, 3, 3, 4, 4, 4, 4, 4, 2, 7, 3, 5};
        for (int i = 0; i < texts.length; i++) {
            Due.due("steps of " + texts[i], it(texts[i], "1", "p", "\\x.x").steps(IT), due[i]);
        }
    }

    private static void value() {
        Due.says(21, "Sign i of the VALUE of w, WRITTEN; i NONE: how many signs.");
        String[][] pairs = {{"7", "7"}, {"\\x.x", "\\"}, {"{}", "{}"}, {"{H=1|{A={}|{}}}", "{A={},H=1}"}, {"<H<A1>>", "<H<A1>>"},
            {"{B=<C\\x.1>|{}}", "{B=<C\\>}"}, {"&{B=1|{}}{H=2|{}}", "{B=1,H=2}"}, {"&{A=1|{}}{H=2|{}}", "{A=1,H=2}"},
            {"&{}{}", "{}"}, {"-H{A=1|{H=2|{}}}", "{A=1}"}, {"-A{A=1|{H=2|{}}}", "{H=2}"}, {"-A{A=1|{}}", "{}"},
            {"~BC{A=1|{B=2|{H=3|{}}}}", "{A=1,C=2,H=3}"}, {"~AH{A=1|{G=2|{}}}", "{G=2,H=1}"}, {"~HA{H=1|{G=2|{}}}", "{A=1,G=2}"},
            {"#H{A=1|{H=2|{}}}", "2"}, {"#A{A=1|{H=2|{}}}", "1"}, {"?<H1>[Ax.<Bx>;Hx.<Ax>]", "<A1>"},
            {"?<H1>[Ax.<Bx>;*x.x]", "<H1>"}, {"?<H1>[*x.<Ax>]", "<A<H1>>"}};
        for (String[] pair : pairs) {
            RowTypes x = it(pair[0]);
            Due.due("the value of " + pair[0], Talk.value(x, IT), pair[1]);
            Due.due("how many", x.value(IT, NONE), pair[1].length());
            for (int i = 0; i < pair[1].length(); i++) {
                Due.due("sign " + i, x.value(IT, i), pair[1].charAt(i));
            }
            for (int i : new int[] {LEAST, -3, -2, pair[1].length(), 1000, MOST}) {
                Due.due("sign " + i, x.value(IT, i), NONE);
            }
        }
    }

    private static void taken() {
        Due.says(22, "-2: more than 500 STEPS; -3: it is none, or has none such; NONE: none such, no such LABEL.");
        for (String text : new String[] {"{B=1|{H=2|{}}}", "<B1>", "1", "\\x.x"}) {
            RowTypes x = it(text);
            for (int label = -2; label <= 9; label++) {
                boolean there = text.startsWith("{") ? label == 1 || label == 7 : text.startsWith("<") && label == 1;
                int answer = label < 0 || label > 7 ? NONE : there ? 0 : -3;
                Due.due("taken " + label + " of " + text, x.taken(IT, label), answer);
            }
            Due.due("the least label", x.taken(IT, LEAST), NONE);
            Due.due("the greatest label", x.taken(IT, MOST), NONE);
        }
    }

    // ---- texts

    private static void parts() {
        Due.says(23, "EXPRESSIONS in w (IT, a DEFINITION), it, too;");
        String[] texts = {"1", "p", "\\x.1", "(q1)", "$x=1;1", "{}", "{A=1|{}}", "#A{A=1|{}}", "-A{A=1|{}}", "~AB{A=1|{}}", "&{}{}",
            "<A1>", "?<A1>[Ax.1]", "?<A1>[Ax.1;*y.2]"};
        String[] rows = {"1 0 0 0 0 0 0 0 0 0 0", "0 1 0 0 0 0 0 0 0 0 0", "1 0 1 0 0 0 0 0 0 0 0", "1 1 0 1 0 0 0 0 0 0 0",
            "2 0 0 0 1 0 0 0 0 0 0", "0 0 0 0 0 1 0 0 0 0 0", "1 0 0 0 0 1 1 0 0 0 0", "1 0 0 0 0 1 1 1 0 0 0",
            "1 0 0 0 0 1 1 1 0 0 0", "1 0 0 0 0 1 1 1 0 0 0", "0 0 0 0 0 2 0 0 1 0 0", "1 0 0 0 0 0 0 0 0 1 0",
            "2 0 0 0 0 0 0 0 0 1 1", "3 0 0 0 0 0 0 0 0 1 1"};
        for (int i = 0; i < texts.length; i++) {
            RowTypes x = it(texts[i], "1", "\\x.x");
            int all = 0;
            for (String n : rows[i].split(" ")) {
                all += Integer.parseInt(n);
            }
            Due.due("parts of " + texts[i], x.parts(IT), all);
            Due.due("the ROW of " + texts[i], Talk.row(x), rows[i]);
            Due.due("eleven numbers", x.count(3), 11);
        }
        RowTypes x = with("{A=1|{}}");
        Talk.infers(x, "~AB~BA".repeat(16) + "~AB" + "p");
        Due.due("a hundred signs", x.parts(IT), 34);
    }

    private static void often() {
        Due.says(24, "in { LABEL = E | E }, behind # - ~ (of ~ both), in < >, in BRANCHES. NONE: none such, no such LABEL.");
        for (int label = 0; label < 8; label++) {
            String l = ALL_FIELDS[label], m = ALL_FIELDS[(label + 1) % 8];
            often("{" + l + "=1|{}}", label, "1 0 0 0");
            often("#" + l + "{" + l + "=1|{}}", label, "1 1 0 0");
            often("-" + l + "{" + l + "=1|{}}", label, "1 1 0 0");
            often("~" + l + m + "{" + l + "=1|{}}", label, "1 1 0 0");
            often("~" + m + l + "{" + m + "=1|{}}", label, "0 1 0 0");
            often("~" + l + m + "~" + m + l + "{" + m + "=1|{}}", label, "0 2 0 0");
            often("<" + l + "1>", label, "0 0 1 0");
            often("?<" + m + "1>[" + l + "x.1;*y.2]", label, "0 0 0 1");
            often("?<" + l + "1>[" + m + "x.1;" + l + "x.2]", label, "0 0 1 1");
            often("?<" + m + "1>[*x.1]", label, "0 0 0 0");
            often("1", label, "0 0 0 0");
        }
        RowTypes x = it("{A=1|{}}");
        for (int label : new int[] {LEAST, -2, -1, 8, 9, 33, MOST}) {
            Due.due("often " + label, x.often(IT, label), NONE);
        }
        Due.due("often 7", x.often(IT, 7), 0);
        Due.due("often 0", x.often(IT, 0), 1);
    }

    private static void often(String text, int label, String row) {
        RowTypes x = it(text);
        int all = 0;
        for (String n : row.split(" ")) {
            all += Integer.parseInt(n);
        }
        Due.due("often " + label + " in " + text, x.often(IT, label), all);
        Due.due("the ROW of " + text, Talk.row(x), row);
    }

    private static void free() {
        Due.says(25, "NAMES in w that are not bound in it (bits, a the lowest);");
        String[] eight = {"1", "1", "1", "1", "1", "1", "1", "1"};
        for (int k = 0; k < 8; k++) {
            char name = (char) ('p' + k);
            RowTypes x = it(String.valueOf(name), eight);
            Due.due("free " + name, x.free(IT), 1 << 15 + k);
            Due.due("one alone", Talk.row(x), "1");
            Due.due("bound " + name, it("\\" + name + "." + name, eight).free(IT), 0);
        }
        Due.due("all eight", it("{A=p|{B=q|{C=r|{D=s|{E=t|{F=u|{G=v|{H=w|{}}}}}}}}}", eight).free(IT), 255 << 15);
        Due.due("none", it("\\a.\\z.(az)").free(IT), 0);
        Due.due("in E of $", it("$p=p;1", "1").free(IT), 1 << 15);
        Due.due("in F of $", it("$p=1;p", "1").free(IT), 0);
        Due.due("in E of ?", it("?<Ap>[Ap.1]", "1").free(IT), 1 << 15);
        Due.due("in its branch", it("?<A1>[Ap.p]", "1").free(IT), 0);
        Due.due("in another branch", it("?<A1>[Ap.1;Bq.p]", "1").free(IT), 1 << 15);
        Due.due("behind a function", it("{A=\\p.1|{B=p|{}}}", "1").free(IT), 1 << 15);
        Due.says(25, "how deep EXPRESSIONS are within one another at most (one alone: 1).");
        String[] texts = {"1", "{}", "\\x.1", "(\\x.11)", "$x=1;\\y.1", "{A=1|{}}", "{A=1|{B=1|{}}}", "#A{A=1|{}}", "&{}{}", "<A1>",
            "?<A1>[Ax.1]", "?<A1>[Ax.1;*y.#A{A=1|{}}]", "?<A1>[Ax.#A{A=1|{}};*y.1]"};
        int[] deep = {1, 1, 2, 3, 3, 2, 3, 3, 2, 2, 3, 4, 4};
        for (int i = 0; i < texts.length; i++) {
            RowTypes x = it(texts[i]);
            x.free(IT);
            Due.due("how deep " + texts[i], Talk.row(x), String.valueOf(deep[i]));
        }
        RowTypes x = new RowTypes();
        Due.due("deep", Talk.infers(x, "\\r." + "&{}".repeat(32) + "r"), 5);
        x.free(IT);
        Due.due("34 deep", Talk.row(x), "34");
    }

    private static void count() {
        Due.says(26, "NONE for another what.");
        RowTypes x = it("1", "2", "3");
        x.closes(IT);
        x.parts(IT);
        x.sign(0);
        int[] due = {2, 1, 1, 11, 4};
        for (int what = 0; what <= 4; what++) {
            Due.due("count " + what, x.count(what), due[what]);
        }
        for (int what : new int[] {LEAST, -2, -1, 5, 6, 100, MOST}) {
            Due.due("count " + what, x.count(what), NONE);
        }
        Due.says(26, "2: 1 if there is THE ANSWER, else 0,");
        x = it("\\x.x");
        Due.due("none", x.count(2), 0);
        x.field(IT, 0);
        Due.due("none behind -2", x.count(2), 0);
        x.meets(IT, IT);
        Due.due("one", x.count(2), 1);
        x.meets(IT, 0);
        Due.due("still one", x.count(2), 1);
    }

    private static void row() {
        Due.says(27, "NoSuchElementException: none such.");
        RowTypes x = new RowTypes();
        for (int i : new int[] {LEAST, -1, 0, 1, MOST}) {
            Due.due("none yet " + i, noSuch(x, i), true);
        }
        Talk.infers(x, "{A=1|{}}");
        int[] counts = new int[4];
        for (int call = 0; call < 4; call++) {
            switch (call) {
                case 0: x.parts(IT); counts[call] = 11; break;
                case 1: x.sort(IT); counts[call] = 3; break;
                case 2: x.free(IT); counts[call] = 1; break;
                default: x.often(IT, 0); counts[call] = 4; break;
            }
            Due.due("as many", x.count(3), counts[call]);
            for (int i = 0; i < counts[call]; i++) {
                Due.due("number " + i, noSuch(x, i), false);
            }
            for (int i : new int[] {LEAST, -2, -1, counts[call], counts[call] + 1, 11, 12, MOST}) {
                Due.due("number " + i, noSuch(x, i), true);
            }
        }
        Talk.infers(x, "1");
        x.sort(IT);
        Due.due("the ROW of none", noSuch(x, 0), true);
    }
}
