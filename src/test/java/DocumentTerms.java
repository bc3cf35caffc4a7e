/** The document's first term, sentence by sentence in its order: expressions, types, faults, values, how they are written. */
final class DocumentTerms {
    private static final int NONE = Asked.NONE;
    private static final int IT = Asked.IT;
    private static final int ANSWER = Asked.ANSWER;
    private static final String[] LABELS = {"A", "B", "C", "D", "E", "F", "G", "H"};
    private static final String TWICE = "\\f.\\x.(f(fx))";

    private DocumentTerms() { }

    static void go() {
        signs();
        kindsOfExpressions();
        choices();
        definitions();
        types();
        size();
        unify();
        rows();
        rowsTake();
        ends();
        names();
        schemes();
        calls();
        fields();
        joins();
        variantsAndChoices();
        faults();
        places();
        values();
        stepsOfEach();
        written();
    }

    // ---- expressions

    private static void signs() {
        Due.next("## Terms 1. LABELS A .. H (0 .. 7).");
        for (int label = 0; label < 8; label++) {
            RowTypes x = Asked.it("<" + LABELS[label] + "1>");
            Due.due("field " + label, x.field(IT, label), 1);
            x.steps(IT);
            Due.due("the label " + label, x.row(1), label);
        }
        Asked.bad("<I1>", 1);
        Asked.bad("<@1>", 1);
        Asked.bad("<a1>", 1);
        Due.next("EXPRESSIONS are told without blanks:");
        String text = "$f=\\x.{A=x|&-B~CB{C=1|{}}{}};(f?<A#C{C=1|{}}>[Ay.y;*z.2])";
        Asked.has(text, "{A:I}");
        for (int place = 0; place <= text.length(); place++) {
            Asked.bad(text.substring(0, place) + " " + text.substring(place), place);
        }
    }

    private static void kindsOfExpressions() {
        Due.next("```text a digit: that number;");
        for (int n = 0; n < 10; n++) {
            Asked.hasValue(String.valueOf(n), String.valueOf(n));
        }
        Asked.bad("10", 1);
        Due.next("a small letter: a NAME;");
        for (char c = 'a'; c <= 'z'; c++) {
            Asked.hasValue("$" + c + "=4;" + c, "4");
        }
        Asked.bad("A", 0);
        Due.next("\\ NAME . E: a function of NAME;");
        Asked.has("\\x.{A=x|{}}", "(a>{A:a})");
        Asked.bad("\\1.1", 1);
        Asked.bad("\\x1", 2);
        Asked.bad("\\x.", 3);
        Due.next("( E E ): the first one of the other one;");
        Asked.hasValue("(\\x.<Ax>5)", "<A5>");
        Asked.bad("(\\x.x)", 5);
        Asked.bad("(\\x.x12)", 6);
        Asked.bad("()", 1);
        Due.next("$ NAME = E ; E: NAME is the first one in the other one;");
        Asked.hasValue("$x=3;{A=x|{B=x|{}}}", "{A=3,B=3}");
        Asked.fault("$x=x;1", 1, 3, NONE);
        Asked.bad("$1=1;1", 1);
        Asked.bad("$x:1;1", 2);
        Asked.bad("$x=1.1", 4);
        Due.next("{}: the empty record;");
        Asked.has("{}", "{}");
        Asked.hasValue("{}", "{}");
        Due.next("{ LABEL = E | E }: the record that is the second one and that FIELD;");
        Asked.hasValue("{B=1|{A=2|{C=3|{}}}}", "{A=2,B=1,C=3}");
        Asked.bad("{A:1|{}}", 2);
        Asked.bad("{A=1,{}}", 4);
        Asked.bad("{A=1|}", 5);
        Asked.bad("{A=1|{}>", 7);
        changesOfRecords();
    }

    private static void changesOfRecords() {
        Due.next("# LABEL E: its FIELD;");
        Asked.hasValue("#B{A=1|{B=2|{}}}", "2");
        Asked.bad("#1", 1);
        Due.next("- LABEL E: the record without that FIELD;");
        Asked.hasValue("-B{A=1|{B=2|{C=3|{}}}}", "{A=1,C=3}");
        Asked.bad("-A", 2);
        Due.next("~ LABEL LABEL E: the record, the FIELD of the first one now by the other one (unlike ones);");
        Asked.hasValue("~BH{A=1|{B=2|{C=3|{}}}}", "{A=1,C=3,H=2}");
        for (String l : LABELS) {
            Asked.bad("~" + l + l + "{" + l + "=1|{}}", 2);
        }
        Asked.bad("~A{}", 2);
        Due.next("& E E: both records together;");
        Asked.hasValue("&{C=1|{A=2|{}}}{B=3|{}}", "{A=2,B=3,C=1}");
        Asked.bad("&{}", 3);
        Due.next("< LABEL E >: a variant;");
        Asked.hasValue("<H{A=1|{}}>", "<H{A=1}>");
        Asked.bad("<A1", 3);
        Asked.bad("<1>", 1);
    }

    private static void choices() {
        Due.next("? E [ BRANCHES ]: BRANCHES with ; between, one or more, LABEL NAME . E (each LABEL once), "
                + "the last one may be * NAME . E (the OTHERS).");
        for (int taken = 0; taken < 8; taken++) {
            StringBuilder branches = new StringBuilder();
            for (int label = 0; label < 8; label++) {
                branches.append(label == 0 ? "" : ";").append(LABELS[label]).append("x.").append(label);
            }
            Asked.hasValue("?<" + LABELS[taken] + "{}>[" + branches + "]", String.valueOf(taken));
            Asked.hasValue("?<" + LABELS[taken] + "{}>[" + branches + ";*x.9]", String.valueOf(taken));
        }
        Asked.hasValue("?<C4>[Ax.<Bx>;*x.x]", "<C4>");
        Asked.hasValue("?<C4>[*x.x]", "<C4>");
        Asked.bad("?<A1>[]", 6);
        Asked.bad("?<A1>[Ax.x;]", 11);
        Asked.bad("?<A1>[;Ax.x]", 6);
        Asked.bad("?<A1>[Ax.x,By.y]", 10);
        Asked.bad("?<A1>[*x.1;Ay.y]", 10);
        Asked.bad("?<A1>[*x.1;*y.1]", 10);
        Asked.bad("?<A1>[A.1]", 7);
        Asked.bad("?<A1>[*.1]", 7);
        Asked.bad("?<A1>{Ax.1}", 5);
        for (String l : LABELS) {
            String other = l.equals("D") ? "E" : "D";
            Asked.bad("?<D1>[" + l + "x.1;" + other + "x.2;" + l + "x.3]", 16);
        }
        // Each label once among the branches of one ?, not of others within.
        Asked.hasValue("?<A<A6>>[Ax.?x[Ay.y;Bz.1];Bx.?<A1>[Ay.y]]", "6");
    }

    private static void definitions() {
        Due.next("DEFINITIONS 0 .. (8 at most): EXPRESSIONS; number k goes by the NAME that is k letters behind p.");
        RowTypes x = new RowTypes();
        for (int k = 0; k < 8; k++) {
            Due.due("number " + k, Talk.defines(x, "<" + LABELS[k] + k + ">"), k);
        }
        Due.due("a ninth", Talk.defines(x, "1"), -300);
        String names = "pqrstuvw";
        for (int k = 0; k < 8; k++) {
            Due.due("infers", Talk.infers(x, names.substring(k, k + 1)), 3);
            Due.due("value", Talk.value(x, IT), "<" + LABELS[k] + k + ">");
            Due.due("value of the definition", Talk.value(x, k), "<" + LABELS[k] + k + ">");
        }
        Due.due("o", Talk.infers(x, "o"), -1000);
        Due.due("x", Talk.infers(x, "x"), -1000);
        Due.next("IT: an EXPRESSION.");
        Due.due("IT stays", Talk.value(x, IT), "<H7>");
        Due.due("another IT", Talk.infers(x, "{}"), 1);
        Due.due("another IT", Talk.value(x, IT), "{}");
        Due.next("PLACE of an EXPRESSION: that of its first sign in its text.");
        String text = "{A=?<B1>[Bx.(\\y.yx)]|$z=-C{C=2|{}};z}";
        String firsts = " 0 3 4 6 12 13 16 17 21 24 26 29 31 35 ";
        x = Asked.it(text);
        for (int place = 0; place < text.length(); place++) {
            Due.due("place " + place + " of " + text, x.part(IT, place) != -2, firsts.contains(" " + place + " "));
        }
    }

    // ---- types

    private static void types() {
        Due.next("TYPES: I (numbers); a function from a TYPE to a TYPE; a record of a ROW; a variant of a ROW; variables.");
        String[] texts = {"1", "\\x.1", "{A=1|{}}", "<A1>"};
        for (int sort = 0; sort < 4; sort++) {
            Due.due("the sort of " + texts[sort], Asked.it(texts[sort]).sort(IT), sort);
        }
        RowTypes x = Asked.it("\\x.x");
        x.side(IT, 0);
        Due.due("the sort of a variable", x.sort(ANSWER), 4);
        Due.next("ROW: FIELDS (LABELS, each once, each with a TYPE), and an END: nothing, or a row variable.");
        x = Asked.it("{H=1|{C={}|{}}}");
        x.sort(IT);
        Due.due("fields, no end", Talk.row(x), "132 0 0");
        x = Asked.it("\\r.{H=1|{C={}|r}}");
        x.side(IT, 1);
        x.sort(ANSWER);
        Due.due("fields, an end", Talk.row(x), "132 1 132");
        Due.next("A row variable has LACKS: LABELS.");
        for (int labels = 0; labels < 256; labels++) {
            StringBuilder s = new StringBuilder("{}");
            for (int label = 0; label < 8; label++) {
                if ((labels >> label & 1) != 0) {
                    s.insert(0, "{" + LABELS[label] + "=1|").append('}');
                }
            }
            Due.due("LACKS " + labels, Asked.it("\\r.&r" + s).lacks(IT, 0), labels);
        }
    }

    private static void size() {
        Due.next("SIZE: I, a variable, an END that is one: 1; a function: 1 and both; a record, a variant: 1, "
                + "and its FIELDS' TYPES, and its END.");
        String[] texts = {"1", "\\x.x", "\\x.\\y.\\z.1", "{}", "{A=1|{}}", "{A=\\x.x|{B={}|{}}}", "\\r.&r{}", "<A1>", "<A<B{}>>",
            "\\v.?v[Ax.1;*y.2]", "\\v.?v[Ax.1;By.2]", "\\r.{A=r|{B=r|{}}}"};
        int[] sizes = {1, 3, 7, 1, 2, 5, 5, 3, 5, 5, 5, 5};
        for (int i = 0; i < texts.length; i++) {
            RowTypes x = new RowTypes();
            Due.due("infers " + texts[i], Talk.infers(x, texts[i]), sizes[i]);
            Due.due("size of " + texts[i], x.size(IT), sizes[i]);
        }
        RowTypes x = Asked.it("\\x.x");
        Due.due("a variable", x.side(IT, 0), 1);
        x = Asked.it("\\r.{A=1|r}");
        Due.due("{|a}", x.side(IT, 0), 2);
        Due.due("{A:I|a}", x.side(IT, 1), 3);
    }

    private static void unify() {
        Due.next("TO UNIFY two TYPES (the one named first is the first one; what variables have become is looked through):");
        Asked.has("\\f.\\g.{A=(fg)|{B=(f1)|{}}}", "((I>a)>(I>{A:a,B:a}))");
        Asked.fault("\\f.\\g.{A=(fg)|{B=(f1)|{C=(g1)|{}}}}", 2, 25, NONE);
        Due.next("if both are one variable, nothing;");
        Asked.has("\\x.?<Ax>[Ay.y;By.x]", "(a>a)");
        Asked.meet("\\x.x", "\\x.x", "(a>a)");
        Due.next("else if the first one is a variable: it becomes the other one, ENDLESS if it is in that;");
        Asked.has("\\x.(x1)", "((I>a)>a)");
        Asked.meet("\\x.x", "\\x.{A=1|{}}", "({A:I}>{A:I})");
        Asked.fault("\\x.(xx)", 5, 3, NONE);
        Asked.meetFault("\\x.x", "\\x.{A=x|{}}", 5, NONE);
        Due.next("else if the other one is, likewise;");
        Asked.meet("\\x.{A=1|{}}", "\\x.x", "({A:I}>{A:I})");
        Asked.meetFault("\\x.{A=x|{}}", "\\x.x", 5, NONE);
        Asked.meetFault("\\x.<Ax>", "\\x.x", 5, NONE);
        Asked.meetFault("\\x.\\y.x", "\\x.x", 5, NONE);
        Due.next("both I: nothing;");
        Asked.meet("1", "2", "I");
        Due.next("two functions: from what, then to what;");
        Asked.meet("\\x.\\y.x", "\\x.\\y.y", "(a>(a>a))");
        // From what: MISSING A, to what: a CLASH; then the other way round.
        Asked.meetFault("\\r.$y=?<Ar>[Ax.x;By.{A=1|{}}];1", "\\r.$y=?<Ar>[Ax.x;By.{}];{}", 3, 0);
        Asked.meetFault("\\x.$y=?<Ax>[Ax.x;By.1];{A=1|{}}", "\\x.$y=?<Ax>[Ax.x;By.{}];{}", 2, NONE);
        Asked.meetFault("\\x.$y=?<Ax>[Ax.x;By.1];{A=1|{}}", "\\x.$y=?<Ax>[Ax.x;By.2];{}", 3, 0);
        Due.next("two records, two variants: their ROWS;");
        Asked.meet("{B=1|{A={}|{}}}", "{A={}|{B=2|{}}}", "{A:{},B:I}");
        Asked.meet("<A1>", "<B{}>", "<A:I,B:{}|a>");
        Due.next("others: a CLASH.");
        String[] sorts = {"1", "\\x.1", "{}", "<A1>"};
        for (int a = 0; a < 4; a++) {
            for (int b = 0; b < 4; b++) {
                if (a != b) {
                    Asked.meetFault(sorts[a], sorts[b], 2, NONE);
                }
            }
        }
    }

    private static void rows() {
        Due.next("Two ROWS: by LABELS A to H, each that one of both has then:");
        for (int a = 0; a < 8; a++) {
            for (int b = a + 1; b < 8; b++) {
                // One has the label a, the other one b: the lower one is the first one that is missing.
                String one = "{" + LABELS[a] + "=1|{}}", other = "{" + LABELS[b] + "=1|{}}";
                Asked.meetFault(one, other, 3, a);
                Asked.meetFault(other, one, 3, a);
                // Both have b, of other types, and one has a: a is missing, or b clashes, whichever is lower.
                Asked.meetFault("{" + LABELS[a] + "=1|" + other + "}", "{" + LABELS[b] + "={}|{}}", 3, a);
                Asked.meetFault("{" + LABELS[b] + "=1|" + one + "}", "{" + LABELS[a] + "={}|{}}", 2, NONE);
            }
        }
        // What A's types have become puts B there, when B's turn has come.
        Asked.has("\\r.$y={A=1|r};?<A{A=r|r}>[Ax.x;Bx.{A={B=1|{}}|{B=2|{}}}]", "({B:I}>{A:{B:I},B:I})");
        Due.next("if both have it, these TYPES;");
        Asked.meet("\\x.{C=x|{}}", "\\x.{C=1|{}}", "(I>{C:I})");
        Asked.meetFault("{C=1|{}}", "{C=\\x.x|{}}", 2, NONE);
        Asked.meetFault("<C1>", "<C{}>", 2, NONE);
    }

    private static void rowsTake() {
        Due.next("else the one that has it not must TAKE that FIELD: if its END is nothing: it is MISSING;");
        for (int label = 0; label < 8; label++) {
            Asked.meetFault("{" + LABELS[label] + "=1|{}}", "{}", 3, label);
            Asked.meetFault("{}", "{" + LABELS[label] + "=1|{}}", 3, label);
            Asked.fault("#" + LABELS[label] + "{}", 3, 0, label);
        }
        Due.next("if the END of the other one is the same variable: ENDLESS;");
        Asked.fault("\\r.$y=-Br;?<Ay>[Ax.x;Bx.{B=1|y}]", 5, 21, NONE);
        Asked.fault("\\r.$y=-Br;?<Ay>[Ax.{B=1|x};Bx.y]", 5, 27, NONE);
        Asked.fault("\\r.$y=-Br;?<Ay>[Ax.{C=1|x};Bx.{B=1|y}]", 5, 27, NONE);
        Due.next("if its END LACKS it: it is there TWICE;");
        for (int label = 0; label < 8; label++) {
            String l = LABELS[label];
            Asked.fault("{" + l + "=1|{" + l + "=1|{}}}", 4, 0, label);
            Asked.meetFault("\\r.-" + l + "{" + l + "=1|r}", "\\r.{" + l + "=#" + l + "r|-" + l + "r}", 4, label);
            Asked.meetFault("\\r.{" + l + "=#" + l + "r|-" + l + "r}", "\\r.-" + l + "{" + l + "=1|r}", 4, label);
        }
        Due.next("if its END is in that TYPE: ENDLESS;");
        Asked.fault("\\r.$y={B=1|r};?<Ar>[Ax.x;By.{A=r|{}}]", 5, 25, NONE);
        Asked.fault("\\r.$y={B=1|r};?<A{A=\\z.<Cr>|{}}>[Ax.x;By.r]", 5, 38, NONE);
        Due.next("then its END becomes that FIELD and a new END that LACKS what it did, and that LABEL.");
        RowTypes x = Asked.it("\\r.$y={C=1|r};$z=#Er;r");
        Due.due("type", Talk.type(x, IT), "({E:a|b}>{E:a|b})");
        Due.due("LACKS C, E", x.lacks(IT, 1), 20);
        x = Asked.it("\\r.$z=#Ar;$z=#Hr;$z=#Dr;1");
        Due.due("type", Talk.type(x, IT), "({A:a,D:b,H:c|d}>I)");
        Due.due("LACKS A, D, H", x.lacks(IT, 3), 137);
    }

    private static void ends() {
        Due.next("Behind all LABELS the ENDS: if just one is a variable, it becomes nothing;");
        Asked.has("\\r.?<Ar>[Ax.x;Bx.{}]", "({}>{})");
        Asked.has("\\r.?<A{}>[Ax.x;Bx.r]", "({}>{})");
        Asked.has("\\v.?v[Ax.<Ax>;By.<By>]", "(<A:a,B:b>><A:a,B:b|c>)");
        Asked.has("\\v.{A=v|{B=?v[Ax.1;By.2]|{}}}", "(<A:a,B:b>>{A:<A:a,B:b>,B:I})");
        // Behind all labels: a field that is missing comes first, whatever the ends are.
        Asked.fault("\\r.?<A{H=1|r}>[Ax.x;Bx.{}]", 3, 20, 7);
        Due.next("if both are, unlike ones, that of the first ROW becomes the other one, which LACKS what both did.");
        RowTypes x = Asked.it("\\r.\\s.$y={A=1|r};$y={H=1|s};?<Ar>[Ax.x;Bx.s]");
        Due.due("one END", Talk.type(x, IT), "({|a}>({|a}>{|a}))");
        Due.due("LACKS A, H", x.lacks(IT, 0), 129);
        x = Asked.it("\\r.\\s.$y={A=1|r};$y={H=1|s};?<Ar>[Ax.x;Bx.r]");
        Due.due("two ENDS", Talk.type(x, IT), "({|a}>({|b}>{|a}))");
        Due.due("LACKS A", x.lacks(IT, 0), 1);
        Due.due("LACKS H", x.lacks(IT, 1), 128);
        // The field that each takes counts, too.
        x = Asked.it("\\r.\\s.$y=#Br;$y=#Gs;?<Ar>[Ax.x;Bx.s]");
        Due.due("both fields", Talk.type(x, IT), "({B:a,G:b|c}>({B:a,G:b|c}>{B:a,G:b|c}))");
        Due.due("LACKS B, G", x.lacks(IT, 2), 66);
    }

    // ---- the types of expressions

    private static void names() {
        Due.next("TYPE of an EXPRESSION, from the left: a number: I.");
        for (int n = 0; n < 10; n++) {
            Asked.has(String.valueOf(n), "I");
        }
        // From the left: of two faults the left one is met.
        Asked.fault("{A=#A{}|#B{}}", 3, 3, 0);
        Asked.fault("(#B{}#A{})", 3, 1, 1);
        Due.next("A NAME: of a function, a branch: the TYPE it has there;");
        Asked.has("\\x.{A=x|{B=x|{}}}", "(a>{A:a,B:a})");
        Asked.fault("\\f.{A=(f1)|{B=(f{})|{}}}", 2, 14, NONE);
        Asked.has("?<A1>[Ax.{A=x|{}};Bx.{A=x|{}}]", "{A:I}");
        Asked.fault("?<A\\x.x>[Af.{A=(f1)|{B=(f{})|{}}}]", 2, 23, NONE);
        Asked.has("\\v.?v[Ax.<Bx>;*y.y]", "(<A:a,B:a|b>><B:a|b>)");
        Due.next("by $, or of a DEFINITION (the innermost one that binds it; these behind all):");
        Asked.has("\\x.$x=1;x", "(a>I)");
        Asked.has("$x=1;\\x.x", "(a>a)");
        Asked.has("$x=1;$x={};x", "{}");
        Asked.has("$x=1;$y={};{A=x|{B=y|{}}}", "{A:I,B:{}}");
        Asked.has("$x=1;$y={B=x|{}};$z=<Cy>;{A=x|{B=y|{C=z|{}}}}", "{A:I,B:{B:I},C:<C:{B:I}|a>}");
        Asked.has("\\x.\\x.x", "(a>(b>b))");
        Asked.has("$x=1;?<A{}>[Ax.x]", "{}");
        Asked.has("$x=1;?<A{}>[*x.x]", "<A:{}|a>");
        Asked.has("\\x.$x={A=x|{}};x", "(a>{A:a})");
        for (String text : new String[] {"\\p.p", "(\\p.p{})", "$p={};p", "?<A{}>[Ap.p]"}) {
            Asked.has(text, text.startsWith("\\") ? "(a>a)" : "{}", "1");
        }
        Asked.has("{A=p|{B=$p={};p|{}}}", "{A:I,B:{}}", "1");
    }

    private static void schemes() {
        Due.next("its TYPE with new variables (which LACK the same) for those that were not in TYPES of NAMES of functions "
                + "and branches around the $ (of a DEFINITION: for all);");
        Asked.has("$f=\\x.x;{A=(f1)|{B=(f{})|{C=f|{}}}}", "{A:I,B:{},C:(a>a)}");
        Asked.has("{A=(p1)|{B=(p{})|{C=p|{}}}}", "{A:I,B:{},C:(a>a)}", "\\x.x");
        RowTypes x = Asked.it("$f=\\r.{A=1|{C=1|r}};{A=f|{B=f|{}}}");
        Due.due("two of them", Talk.type(x, IT), "{A:({|a}>{A:I,C:I|a}),B:({|b}>{A:I,C:I|b})}");
        Due.due("LACKS", x.lacks(IT, 0), 5);
        Due.due("LACKS", x.lacks(IT, 1), 5);
        // Within a function, a branch, what is left for the others: what is theirs stays.
        Asked.has("\\x.$f=\\y.{A=x|{B=y|{}}};{A=(f1)|{B=(f{})|{}}}", "(a>{A:{A:a,B:I},B:{A:a,B:{}}})");
        Asked.fault("\\f.$g=f;{A=(g1)|{B=(g{})|{}}}", 2, 19, NONE);
        Asked.fault("?<A\\x.x>[Af.$g=f;{A=(g1)|{B=(g{})|{}}}]", 2, 28, NONE);
        Asked.has("?<A\\x.x>[Af.$g=\\y.y;{A=(g1)|{B=(g{})|{}}}]", "{A:I,B:{}}");
        Asked.has("\\v.?v[Ax.<B1>;*o.$g=\\y.o;?(g1)[*z.(g{})]]", "(<A:a,B:I|b>><B:I|b>)");
        // Of a $ around: not of a function around, so new ones.
        Asked.has("$i=\\x.x;$j=i;{A=(j1)|{B=(j{})|{}}}", "{A:I,B:{}}");
        // A function within the $ is not around it.
        Asked.has("$f=\\x.\\y.x;\\z.{A=(f1)|{B=(fz)|{}}}", "(a>{A:(b>I),B:(c>a)})");
        Due.next("a NAME that nothing binds: UNKNOWN.");
        for (char c = 'a'; c <= 'z'; c++) {
            Asked.fault("{A=1|{B=" + c + "|{}}}", 1, 8, NONE);
        }
        Asked.fault("{A=\\x.x|{B=x|{}}}", 1, 11, NONE);
        Asked.fault("{A=$x=1;x|{B=x|{}}}", 1, 13, NONE);
        Asked.fault("{A=?<A1>[Ax.x;*y.2]|{B=x|{}}}", 1, 23, NONE);
    }

    private static void calls() {
        Due.next("\\ x . E: from a new variable, which x is, to E's.");
        Asked.has("\\x.1", "(a>I)");
        Asked.has("\\x.\\y.{A=x|{B=y|{}}}", "(a>(b>{A:a,B:b}))");
        Due.next("(E F): E's and a function from F's to a new variable are UNIFIED: that.");
        Asked.has("(\\x.{A=x|{}}1)", "{A:I}");
        Asked.has("\\f.\\x.(fx)", "((a>b)>(a>b))");
        Asked.fault("(11)", 2, 0, NONE);
        Asked.fault("(\\r.#Ar{})", 3, 0, 0);
        Asked.fault("(\\r.#Ar1)", 2, 0, NONE);
        Due.next("$: F's.");
        Asked.has("$x={};1", "I");
        Asked.has("$x=1;{A=x|{}}", "{A:I}");
        Due.next("{}: no FIELDS, no END.");
        RowTypes x = Asked.it("{}");
        x.sort(IT);
        Due.due("the ROW", Talk.row(x), "0 0 0");
    }

    private static void fields() {
        Due.next("{A=E|F}: F's and a record of a new END that LACKS A: a record of A: E's and that END.");
        Asked.has("\\x.\\r.{D=x|r}", "(a>({|b}>{D:a|b}))");
        Due.due("LACKS D", Asked.it("\\x.\\r.{D=x|r}").lacks(IT, 1), 8);
        Asked.fault("{D=1|1}", 2, 0, NONE);
        Asked.fault("{D=1|{D=1|{}}}", 4, 0, 3);
        Due.next("#AE, -AE, ~ABE: E's and a record of A: a new variable, and a new END that LACKS A (of ~ also B): "
                + "that variable; the record of that END; the record of B: that variable, and that END.");
        for (int label = 0; label < 8; label++) {
            String l = LABELS[label], m = LABELS[(label + 5) % 8];
            Asked.has("\\r.#" + l + "r", "({" + l + ":a|b}>a)");
            Asked.has("\\r.-" + l + "r", "({" + l + ":a|b}>{|b})");
            Asked.has("\\r.~" + l + m + "r", "({" + l + ":a|b}>{" + m + ":a|b})");
            Due.due("#", Asked.it("\\r.#" + l + "r").lacks(IT, 1), 1 << label);
            Due.due("-", Asked.it("\\r.-" + l + "r").lacks(IT, 1), 1 << label);
            Due.due("~", Asked.it("\\r.~" + l + m + "r").lacks(IT, 1), 1 << label | 1 << (label + 5) % 8);
            Asked.fault("~" + l + m + "{" + l + "=1|{" + m + "=2|{}}}", 4, 0, (label + 5) % 8);
        }
        Asked.fault("#A<A1>", 2, 0, NONE);
    }

    private static void joins() {
        Due.next("<AE>: a variant of A: E's, and a new END that LACKS A.");
        Asked.has("<G{}>", "<G:{}|a>");
        Due.due("LACKS G", Asked.it("<G{}>").lacks(IT, 0), 64);
        Due.next("&EF: E's and a record of a new END (LACKS nothing), F's and another one;");
        Asked.fault("&1{}", 2, 0, NONE);
        Asked.fault("&{}1", 2, 0, NONE);
        Asked.fault("&<A1>{}", 2, 0, NONE);
        Asked.fault("\\r.&r1", 2, 3, NONE);
        Asked.fault("\\r.&1r", 2, 3, NONE);
        Asked.has("\\r.&r{}", "({|a}>{|a})");
        Due.due("LACKS nothing", Asked.it("\\r.&r{}").lacks(IT, 0), 0);
        Due.next("then if the ROW of F's has no END that is a variable: E's and a record of a new END that LACKS its LABELS: "
                + "a record of its FIELDS and that END;");
        RowTypes x = Asked.it("\\r.&{C=1|r}{F=2|{A=3|{}}}");
        Due.due("type", Talk.type(x, IT), "({|a}>{A:I,C:I,F:I|a})");
        Due.due("LACKS A, C, F", x.lacks(IT, 0), 37);
        Asked.has("&{B=1|{}}{A=2|{}}", "{A:I,B:I}");
        Asked.fault("&{A=1|{B=1|{}}}{B=2|{C=1|{}}}", 4, 0, 1);
        Asked.fault("\\r.&{A=#Br|r}{B=2|{}}", 4, 3, 1);
        Due.next("else if that of E's has none, likewise the other way round;");
        x = Asked.it("\\r.&{F=2|{A=3|{}}}{C=1|r}");
        Due.due("type", Talk.type(x, IT), "({|a}>{A:I,C:I,F:I|a})");
        Due.due("LACKS A, C, F", x.lacks(IT, 0), 37);
        Asked.fault("\\r.&{B=2|{}}{A=#Br|r}", 4, 3, 1);
        Due.next("else OPEN.");
        Asked.fault("\\r.\\s.&rs", 6, 6, NONE);
        Asked.fault("\\r.{A=&rr|{}}", 6, 6, NONE);
        Asked.fault("\\r.\\s.&{A=1|r}{A=2|s}", 6, 6, NONE);
    }

    private static void variantsAndChoices() {
        Due.next("?E[..]: E's and a variant of the BRANCHES' LABELS, each of a new variable, and as END nothing, or, with OTHERS, "
                + "a new one that LACKS these LABELS;");
        Asked.has("\\v.?v[Cx.1;Ax.2]", "(<A:a,C:b>>I)");
        Asked.has("\\v.?v[Cx.1;Ax.2;*x.3]", "(<A:a,C:b|c>>I)");
        Due.due("LACKS A, C", Asked.it("\\v.?v[Cx.1;Ax.2;*x.3]").lacks(IT, 2), 5);
        Asked.has("\\v.?v[*x.3]", "(<|a>>I)");
        Due.due("LACKS nothing", Asked.it("\\v.?v[*x.3]").lacks(IT, 0), 0);
        Asked.fault("?<D1>[Ax.1;Bx.2]", 3, 0, 3);
        Asked.fault("?1[*x.1]", 2, 0, NONE);
        Due.next("then, branch by branch, its E's is found (its NAME of that variable; of OTHERS: of the variant of that END alone) "
                + "and UNIFIED with a new variable, the same one for all: that.");
        Asked.has("\\v.?v[Ax.x;Bx.{C=x|{}}]", "(<A:{C:a},B:a>>{C:a})");
        Asked.has("\\v.?v[Ax.<Cx>;*o.o]", "(<A:a,C:a|b>><C:a|b>)");
        RowTypes x = Asked.it("\\v.?v[Ax.1;Bx.1;*o.?o[Cx.1;*q.1]]");
        Due.due("others of others", Talk.type(x, IT), "(<A:a,B:b,C:c|d>>I)");
        Due.due("LACKS A, B, C", x.lacks(IT, 3), 7);
        Asked.fault("?<A1>[Ax.x;Bx.{}]", 2, 11, NONE);
        Asked.fault("?<A1>[Ax.x;Bx.2;*x.x]", 2, 16, NONE);
        Asked.fault("?<A1>[Ax.{};Bx.2;*x.u]", 2, 12, NONE);
        Asked.fault("\\v.?v[Ax.1;*o.?o[Ax.2]]", 4, 14, 0);
    }

    // ---- faults

    private static void faults() {
        Due.next("FAULTS: 1 UNKNOWN, 2 CLASH, 3 MISSING, 4 TWICE, 5 ENDLESS, 6 OPEN, 7 TOO GREAT: as soon as the TYPE of an "
                + "EXPRESSION is found, if its SIZE is above 60.");
        Asked.fault("u", 1, 0, NONE);
        Asked.fault("(12)", 2, 0, NONE);
        Asked.fault("-F{}", 3, 0, 5);
        Asked.fault("{F=1|{F=1|{}}}", 4, 0, 5);
        Asked.fault("\\x.(xx)", 5, 3, NONE);
        Asked.fault("\\r.&rr", 6, 3, NONE);
        String deep = "\\a.".repeat(29) + "1";
        RowTypes x = new RowTypes();
        Due.due("59", Talk.infers(x, deep), 59);
        Due.due("60", Talk.infers(x, "{A=" + deep + "|{}}"), 60);
        Asked.fault("<A" + deep + ">", 7, 0, NONE);
        Asked.fault("{B=p|{}}", 7, 0, NONE, "{A=" + deep + "|{}}");
        Asked.fault("\\a." + deep, 7, 0, NONE);
        Asked.fault("\\b.\\a." + deep, 7, 3, NONE);
        // As soon as: what is around it would be small.
        Asked.fault("#A{A=1|<A" + deep + ">}", 7, 7, NONE);
        Asked.fault("$y=\\a." + deep + ";1", 7, 3, NONE);
    }

    private static void places() {
        Due.next("The PLACE: of the EXPRESSION that UNIFIES (a branch with others: of that branch's LABEL, or *), or that is so.");
        String[] texts = {"(11)", "{A=1|1}", "#A1", "-A1", "~AB1", "&1{}", "&{}1", "?1[Ax.1]"};
        for (String text : texts) {
            Asked.fault(text, 2, 0, NONE);
            Asked.fault("\\x." + text, 2, 3, NONE);
            Asked.fault("<A" + text + ">", 2, 2, NONE);
            Asked.fault("?<A1>[Ax." + text + "]", 2, 9, NONE);
        }
        Asked.fault("?<A1>[Ax.1;Bx.{};Cx.1]", 2, 11, NONE);
        Asked.fault("?<A1>[Ax.1;Bx.1;Cx.{}]", 2, 16, NONE);
        Asked.fault("?<A1>[Ax.1;Bx.1;*x.{}]", 2, 16, NONE);
        Asked.fault("{A=1|?<A1>[Ax.1;*x.{}]}", 2, 16, NONE);
        Due.next("The first one that is met counts.");
        Asked.fault("{A=(11)|{B=u|{}}}", 2, 3, NONE);
        Asked.fault("{A=u|{B=(11)|{}}}", 1, 3, NONE);
        Asked.fault("{B={A=1|{A=1|{}}}|{B=1|{B=1|{}}}}", 4, 3, 0);
        Asked.fault("(1#A{})", 3, 2, 0);
        Asked.fault("?1[Ax.u]", 2, 0, NONE);
        Asked.fault("?u[Ax.(11)]", 1, 1, NONE);
    }

    // ---- values

    private static void values() {
        Due.next("VALUES: numbers, functions, records, variants; each EXPRESSION that is worked out is a STEP");
        Asked.hasValue("{A=1|{B=\\x.x|{C={}|{D=<A2>|{}}}}}", "{A=1,B=\\,C={},D=<A2>}");
        Asked.hasSteps("{A=1|{B=\\x.x|{C={}|{D=<A2>|{}}}}}", 10);
        // Those that are not worked out are none.
        Asked.hasSteps("{A=\\x.{A=x|{B=x|{}}}|{}}", 3);
        Asked.hasSteps("?<A1>[Ax.2;Bx.#A{A=1|{B=2|{}}}]", 4);
    }

    private static void stepsOfEach() {
        Due.next("(of (E F): it, E, F, then the function's;");
        Asked.hasSteps("(\\x.12)", 4);
        Asked.hasSteps("(\\x.x{})", 4);
        Asked.hasSteps("((\\x.\\y.x1)2)", 1 + 4 + 1 + 1);
        Due.next("of $: it, E, F;");
        Asked.hasSteps("$x=1;2", 3);
        Asked.hasSteps("$x={A=1|{}};#Ax", 1 + 3 + 2);
        Due.next("of ?: it, E, that branch's;");
        Asked.hasSteps("?<A1>[Ax.x]", 4);
        Asked.hasSteps("?<B1>[Ax.{A=<Bx>|{}};*y.{A=y|{}}]", 1 + 2 + 3);
        Due.next("a NAME: it;");
        Asked.hasSteps("$x=(\\y.y1);{A=x|{B=x|{}}}", 1 + 4 + 5);
        Due.next("of a DEFINITION: it, then its EXPRESSION, anew each time;");
        Asked.hasSteps("p", 5, "(\\y.y1)");
        Asked.hasSteps("{A=p|{B=p|{}}}", 3 + 5 + 5, "(\\y.y1)");
        Asked.hasSteps("q", 1 + 1 + 5 + 1, "(\\y.y1)", "{A=p|{}}");
        Due.next("a function: it alone;");
        Asked.hasSteps("\\x.{A=x|{B=x|{}}}", 1);
        Due.next("of others: it, then those in it from the left).");
        Asked.hasSteps("7", 1);
        Asked.hasSteps("{}", 1);
        Asked.hasSteps("{A=1|{}}", 3);
        Asked.hasSteps("#A{A=1|{}}", 4);
        Asked.hasSteps("-A{A=1|{}}", 4);
        Asked.hasSteps("~AB{A=1|{}}", 4);
        Asked.hasSteps("&{A=1|{}}{}", 5);
        Asked.hasSteps("<A<B1>>", 3);
        // 2 to the n times a step, and a step for each that is called: p twice, n deep.
        Asked.hasSteps("((p\\x.x)1)", 14, TWICE);
    }

    private static void written() {
        Due.next("WRITTEN, without blanks: TYPES: I; ( T > T );");
        Asked.has("1", "I");
        Asked.has("\\x.\\y.1", "(a>(b>I))");
        Asked.has("\\f.(f1)", "((I>a)>a)");
        Due.next("{ and FIELDS by LABELS, A : T with , between, | and its END if that is a variable, };");
        Asked.has("{}", "{}");
        Asked.has("{C=1|{A=\\x.x|{B={}|{}}}}", "{A:(a>a),B:{},C:I}");
        Asked.has("\\r.{C=1|{A=2|r}}", "({|a}>{A:I,C:I|a})");
        Due.next("< > likewise;");
        Asked.has("<B<A1>>", "<B:<A:I|a>|b>");
        Asked.has("\\v.?v[Bx.1;Ax.1]", "(<A:a,B:b>>I)");
        Asked.has("\\v.?v[*x.1]", "(<|a>>I)");
        Due.next("variables by the order in which they come first: a .. z, then a1 .. z1, a2 ..");
        Asked.has("\\x.\\y.\\z.{A=z|{B=x|{}}}", "(a>(b>(c>{A:c,B:a})))");
        // Twenty-nine functions, each of a variable of its own.
        StringBuilder s = new StringBuilder();
        for (int k = 0; k < 29; k++) {
            s.append('(').append((char) ('a' + k % 26)).append(k < 26 ? "" : "1").append('>');
        }
        Asked.has("\\a.".repeat(29) + "1", s + "I" + ")".repeat(29));
        fiftyFour();
        Due.next("VALUES: numbers; \\ ; { FIELDS by LABELS, A = V with , between }; < A V >.");
        Asked.hasValue("5", "5");
        Asked.hasValue("\\x.x", "\\");
        Asked.hasValue("{}", "{}");
        Asked.hasValue("{H={}|{A=\\x.1|{C=<B3>|{}}}}", "{A=\\,C=<B3>,H={}}");
        Asked.hasValue("<H<A{B=1|{}}>>", "<H<A{B=1}>>");
    }

    /** Eight times six fields and their ENDs make more variables than there are letters, twice over. */
    private static void fiftyFour() {
        RowTypes x = Asked.with("\\r.$x=#Ar;$x=#Br;$x=#Cr;$x=#Dr;$x=#Er;$x=#Fr;1",
                "\\s.$x=(p#As);$x=(p#Bs);$x=(p#Cs);$x=(p#Ds);$x=(p#Es);$x=(p#Fs);$x=#Gs;1");
        Due.due("1 + (1 + 6 * (1 + 6 + 1) + 1 + 1) + 1", x.size(1), 53);
        StringBuilder s = new StringBuilder("({");
        int next = 0;
        for (int field = 0; field < 6; field++) {
            s.append(LABELS[field]).append(":{");
            for (int label = 0; label < 6; label++) {
                s.append(label == 0 ? "" : ",").append(LABELS[label]).append(':').append(variable(next++));
            }
            s.append('|').append(variable(next++)).append("},");
        }
        s.append("G:").append(variable(next++)).append('|').append(variable(next++)).append("}>I)");
        Due.due("written", Talk.type(x, 1), s.toString());
        Due.due("the last ones", s.toString().endsWith("|p1},G:q1|r1}>I)"), true);
        x.size(1);
        Due.due("the ROW", Talk.row(x), "44 7");
    }

    private static String variable(int k) {
        return (char) ('a' + k % 26) + (k < 26 ? "" : String.valueOf(k / 26));
    }
}
