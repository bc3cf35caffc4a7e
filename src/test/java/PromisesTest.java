import java.util.NoSuchElementException;

/** Each promise by itself: ordinary inputs, the edges that the document names, wrong inputs. */
public final class PromisesTest {
    private static final int NONE = RowTypes.NONE;
    private static final int IT = -1;
    private static final int ANSWER = -2;
    private static int wrong = 0;

    public static void main(String[] args) {
        newObject();
        sign();
        end();
        infersSigns();
        infersTypes();
        infersFaults();
        infersTooGreat();
        infersOrder();
        faultsWithin();
        defines();
        forgets();
        size();
        type();
        lacks();
        sort();
        needs();
        field();
        side();
        closes();
        fits();
        above();
        meets();
        applies();
        part();
        steps();
        value();
        taken();
        parts();
        often();
        free();
        count();
        row();
        rowToldAnew();
        System.out.println(wrong == 0 ? "all answers are as due" : wrong + " answers are not as due");
        if (wrong != 0) {
            System.exit(1);
        }
    }

    private static void due(int promise, String what, long got, long want) {
        if (got != want) {
            wrong++;
            System.out.println("promise " + promise + ": " + what + " answered " + got + ", due is " + want);
        }
    }

    private static void due(int promise, String what, String got, String want) {
        if (!got.equals(want)) {
            wrong++;
            System.out.println("promise " + promise + ": " + what + " is " + got + ", due is " + want);
        }
    }

    private static RowTypes with(String... definitions) {
        RowTypes x = new RowTypes();
        for (int i = 0; i < definitions.length; i++) {
            due(5, "defines " + definitions[i], Talk.defines(x, definitions[i]), i);
        }
        return x;
    }

    private static RowTypes it(String text, String... definitions) {
        RowTypes x = with(definitions);
        if (Talk.infers(x, text) < 0) {
            due(4, "infers " + text, -1, 1);
        }
        return x;
    }

    private static String typeOf(String text, String... definitions) {
        return Talk.type(it(text, definitions), IT);
    }

    private static boolean throwsNoSuch(RowTypes x, int i) {
        try {
            x.row(i);
            return false;
        } catch (NoSuchElementException e) {
            return true;
        }
    }

    private static void newObject() {
        RowTypes x = new RowTypes();
        for (int what = 0; what <= 4; what++) {
            due(1, "count " + what, x.count(what), 0);
        }
        for (int w = -3; w < 9; w++) {
            due(1, "size " + w, x.size(w), NONE);
            due(1, "parts " + w, x.parts(w), NONE);
            due(1, "steps " + w, x.steps(w), NONE);
        }
        RowTypes y = it("1");
        due(1, "another object's IT", x.size(IT), NONE);
        due(1, "its own IT", y.size(IT), 1);
    }

    private static void sign() {
        RowTypes x = new RowTypes();
        due(2, "sign", x.sign(0x5C782E78), 4);
        due(2, "infers", x.infers(), 3);
        for (int i = 1; i <= 25; i++) {
            due(2, "sign", x.sign(0x26262626), 4 * i);
        }
        due(2, "sign above 100", x.sign(0x26262626), NONE);
        due(2, "signs stay", x.count(4), 100);
        x.end(97);
        due(2, "sign above 100", x.sign(0x26262626), NONE);
        x.end(96);
        due(2, "sign up to 100", x.sign(0xFF000000), 100);
        due(2, "a high byte is a sign of its own", x.infers(), -1 - 96);
    }

    private static void end() {
        RowTypes x = new RowTypes();
        due(3, "end of nothing", x.end(0) ? 1 : 0, 1);
        due(3, "end above", x.end(1) ? 1 : 0, 0);
        x.sign(0x31323334);
        due(3, "end above", x.end(5) ? 1 : 0, 0);
        due(3, "end below 0", x.end(-1) ? 1 : 0, 0);
        due(3, "signs stay", x.count(4), 4);
        due(3, "all of them", x.end(4) ? 1 : 0, 1);
        due(3, "one alone", x.end(1) ? 1 : 0, 1);
        due(3, "count 4", x.count(4), 1);
        due(3, "infers 1", x.infers(), 1);
        due(3, "infers empties", x.count(4), 0);
    }

    private static void bad(String text, int place) {
        RowTypes x = it("{A=1|{}}");
        x.sort(IT);
        due(4, "infers " + text, Talk.infers(x, text), -1 - place);
        due(4, "the text is empty behind " + text, x.count(4), 0);
        due(4, "the ROW stays behind " + text, Talk.row(x), "1 0 0");
        due(4, "IT stays behind " + text, Talk.type(x, IT), "{A:I}");
        due(5, "defines " + text, Talk.defines(x, text), -1 - place);
        due(5, "no definition behind " + text, x.count(0), 0);
    }

    private static void infersSigns() {
        bad("", 0);
        bad("A", 0);
        bad("I", 0);
        bad("*", 0);
        bad("12", 1);
        bad("\\", 1);
        bad("\\X.x", 1);
        bad("\\xx", 2);
        bad("\\x.", 3);
        bad("(1)", 2);
        bad("(123)", 3);
        bad("(12", 3);
        bad("$x1", 2);
        bad("$x=1,x", 4);
        bad("$x=1;", 5);
        bad("{", 1);
        bad("{A}", 2);
        bad("{I=1|{}}", 1);
        bad("{A=1}", 4);
        bad("{A=1|{}", 7);
        bad("{A=1|{}}}", 8);
        bad("#a{}", 1);
        bad("#I{}", 1);
        bad("#A", 2);
        bad("~A1", 2);
        bad("~AA{}", 2);
        bad("~A", 2);
        bad("&{}", 3);
        bad("<A>", 2);
        bad("<A1", 3);
        bad("?1", 2);
        bad("?1[", 3);
        bad("?1[]", 3);
        bad("?1[Ax.1", 7);
        bad("?1[Ax.1;", 8);
        bad("?1[Ax.1;]", 8);
        bad("?1[Ax.1;Ay.2]", 8);
        bad("?1[Ax.1;By.2;Az.3]", 13);
        bad("?1[*x.1;Ay.2]", 7);
        bad("?1[*x.1;*y.2]", 7);
        bad("?1[Ax1]", 5);
        bad("1 ", 1);
        bad(" 1", 0);
        bad("&".repeat(100), 100);
        bad("(".repeat(99), 99);
        // The same label may stand in branches of another ? within.
        due(4, "labels of two ?", Talk.infers(new RowTypes(), "?<A<A1>>[Ax.?x[Ax.x]]"), 1);
    }

    private static void types(String text, String type) {
        due(4, text, typeOf(text), type);
    }

    private static void infersTypes() {
        types("0", "I");
        types("7", "I");
        types("9", "I");
        types("\\x.x", "(a>a)");
        types("\\x.\\y.x", "(a>(b>a))");
        types("\\x.\\x.x", "(a>(b>b))");
        types("(\\x.x1)", "I");
        types("$i=\\x.x;(ii)", "(a>a)");
        types("\\f.\\x.(f(fx))", "((a>a)>(a>a))");
        types("\\x.$y=x;{A=y|{B=y|{}}}", "(a>{A:a,B:a})");
        types("\\x.$y=\\z.{A=x|{B=z|{}}};{A=(y1)|{B=(y{})|{}}}",
                "(a>{A:{A:a,B:I},B:{A:a,B:{}}})");
        types("{}", "{}");
        types("{B=1|{A={}|{}}}", "{A:{},B:I}");
        types("\\r.{A=1|r}", "({|a}>{A:I|a})");
        types("\\r.#Ar", "({A:a|b}>a)");
        types("\\r.-Ar", "({A:a|b}>{|b})");
        types("\\r.~ABr", "({A:a|b}>{B:a|b})");
        types("\\r.{A=#Br|-Br}", "({B:a|b}>{A:a|b})");
        types("\\r.{A=r|{B=#Ar|-Ar}}", "({A:a|b}>{A:{A:a|b},B:a|b})");
        types("&{A=1|{}}{B=2|{}}", "{A:I,B:I}");
        types("\\r.&r{A=1|{}}", "({|a}>{A:I|a})");
        types("\\r.&{A=1|{}}r", "({|a}>{A:I|a})");
        types("\\r.&r{}", "({|a}>{|a})");
        types("<C1>", "<C:I|a>");
        types("\\v.?v[Ax.x;By.y]", "(<A:a,B:a>>a)");
        types("\\v.?v[Ax.<Bx>;*o.o]", "(<A:a,B:a|b>><B:a|b>)");
        types("\\v.?v[*o.o]", "(<|a>><|a>)");
        types("?<A1>[Ax.{A=x|{}};*o.{A=2|{}}]", "{A:I}");
        types("\\f.{A=(f1)|{B=(f2)|{}}}", "((I>a)>{A:a,B:a})");
        // A definition's type has new variables each time; a name binds more closely than it.
        due(4, "(pp)", typeOf("(pp)", "\\x.x"), "(a>a)");
        due(4, "\\p.p", typeOf("\\p.p", "1"), "(a>a)");
        due(4, "$p=p;p", typeOf("$p={A=p|{}};p", "1"), "{A:I}");
        // What is in the type of a shadowed name stays one variable too.
        types("\\x.$z=x;\\x.$y=z;{A=y|{B=(y1)|{}}}", "((I>a)>(b>{A:(I>a),B:a}))");
    }

    private static void fault(String text, int answer, int label, String... definitions) {
        RowTypes x = it("\\x.x", definitions);
        due(4, "infers " + text, Talk.infers(x, text), answer);
        due(4, "the ROW behind " + text, Talk.row(x), String.valueOf(label));
        due(4, "IT stays behind " + text, Talk.type(x, IT), "(a>a)");
        due(4, "the text is empty behind " + text, x.count(4), 0);
        due(5, "defines " + text, Talk.defines(x, text), answer);
        due(5, "no definition behind " + text, x.count(0), definitions.length);
    }

    private static void infersFaults() {
        fault("x", -1000, NONE);
        fault("\\x.y", -1003, NONE);
        fault("p", -1000, NONE);
        fault("q", -1000, NONE, "1");
        fault("$x=x;1", -1003, NONE);
        fault("?<A1>[Ax.1;*y.x]", -1014, NONE);
        fault("(11)", -2000, NONE);
        fault("#A1", -2000, NONE);
        fault("{A=1|2}", -2000, NONE);
        fault("&1{}", -2000, NONE);
        fault("&{}1", -2000, NONE);
        fault("?1[Ax.x]", -2000, NONE);
        fault("?{}[Ax.x]", -2000, NONE);
        fault("?<A1>[Ax.x;By.{}]", -2011, NONE);
        fault("?<A1>[Ax.{};*y.2]", -2012, NONE);
        fault("((\\x.\\y.x1)(11))", -2011, NONE);
        fault("#B{A=1|{}}", -3000, 1);
        fault("-B{}", -3000, 1);
        fault("?<D1>[Ax.x]", -3000, 3);
        fault("(\\r.#Hr{A=1|{}})", -3000, 7);
        fault("{B=1|{B=1|{}}}", -4000, 1);
        fault("{A=1|{B=1|{B=1|{}}}}", -4005, 1);
        fault("~AB{A=1|{B=2|{}}}", -4000, 1);
        fault("&{B=1|{C=1|{}}}{C=1|{B=1|{}}}", -4000, 1);
        fault("\\v.?v[Ax.1;*y.?y[Az.z]]", -4014, 0);
        fault("\\x.(xx)", -5003, NONE);
        fault("\\x.?<Ax>[Ay.y;Bz.{A=x|{}}]", -5014, NONE);
        fault("\\x.?<Ax>[Ay.y;Bz.<Ax>]", -5014, NONE);
        fault("\\x.?<Ax>[Ay.y;Bz.{A=1|{B={C=\\y.x|{}}|{}}}]", -5014, NONE);
        fault("\\r.\\s.&rs", -6006, NONE);
        fault("\\r.&rr", -6003, NONE);
        // The same END with another label; a variable, an END within its own type.
        fault("\\r.?<Ar>[Ax.{B=1|-Bx};*o.-Br]", -5022, NONE);
        fault("\\r.?<A{A=r|{}}>[Ax.x;By.r]", -5021, NONE);
        fault("\\r.?<A{A=&r{}|{}}>[Ax.x;By.&r{}]", -5024, NONE);
    }

    private static void infersTooGreat() {
        // p doubles: {A:..,B:..}; five times: 63 is too much; four times: 31.
        fault("(p(p(p(p(p1)))))", -7000, NONE, "\\x.{A=x|{B=x|{}}}");
        fault("\\y.(p(p(p(p(p1)))))", -7003, NONE, "\\x.{A=x|{B=x|{}}}");
        due(4, "31", Talk.infers(with("\\x.{A=x|{B=x|{}}}"), "(p(p(p(p1))))"), 31);
        // 60 stands, 61 does not: a record's 1, and its fields.
        String nine = "\\x.{A=x|{B=x|{C=x|{D=x|{E=x|{F=x|{G=x|{H=x|{}}}}}}}}}";
        RowTypes x = with(nine, "\\x.{A=x|{B=x|{C=x|{D=x|{E=x|{}}}}}}");
        due(4, "1 + 5 * 9", Talk.infers(x, "(q(p1))"), 46);
        due(4, "1 + 6 * 9", Talk.infers(x, "{F=(p1)|(q(p1))}"), 55);
        due(4, "and 5", Talk.infers(x, "{H=\\y.\\z.{A=1|{}}|{F=(p1)|(q(p1))}}"), -7000);
        due(4, "and 5", Talk.infers(x, "{H=\\y.\\z.1|{F=(p1)|(q(p1))}}"), 60);
        due(4, "and 6", Talk.infers(x, "{H=\\y.\\z.{A=1|{}}|{F=(p1)|(q(p1))}}"), -7000);
        due(4, "and 5 in a function", Talk.infers(x, "{H=\\y.{A=\\z.1|{}}|{F=(p1)|(q(p1))}}"), -7000);
        due(4, "IT stays", x.size(IT), 60);
        // 60 stands as THE ANSWER, too.
        Talk.defines(x, "\\x.x");
        due(17, "60", x.meets(IT, IT), 60);
        due(18, "60", x.applies(2, IT), 60);
        due(19, "60", x.part(IT, 0), 60);
        due(14, "60", x.closes(IT), 60);
    }

    /** A fault in each part of each kind of expression is the fault of the whole. */
    private static void faultsWithin() {
        for (String text : new String[] {"\\x.!", "(!1)", "(\\x.x!)", "$x=!;1", "$x=1;!", "{A=!|{}}", "{A=1|!}",
                "#A!", "-A!", "~AB!", "&!{}", "&{}!", "<A!>", "?![Ax.1]", "?<A1>[Ax.!;*y.1]", "?<A1>[Ax.1;By.!]",
                "?<A1>[Ax.1;*y.!]"}) {
            int place = text.indexOf('!');
            fault(text.replace("!", "y").replace("*y", "*z").replace("By", "Bz"), -1000 - place, NONE);
            fault(text.replace("!", "{A=(11)|{}}"), -2000 - place - 3, NONE);
        }
    }

    private static void infersOrder() {
        // The first one that is met counts, from the left, what is within ahead of what is around.
        fault("{A=x|y}", -1003, NONE);
        fault("{A=1|x}", -1005, NONE);
        fault("(1x)", -1002, NONE);
        fault("&1x", -1002, NONE);
        fault("((11)x)", -2001, NONE);
        fault("?1[Ax.y]", -2000, NONE);
        fault("$x=(11);y", -2003, NONE);
        // By labels: A's types ahead of B, which is missing.
        fault("(\\r.{C=#Br|{D=(#Ar1)|{}}}{A=2|{}})", -2000, NONE);
        fault("(\\r.{C=#Br|{D=(#Ar1)|{}}}{A=2|{B=1|{}}})", -2000, NONE);
        fault("(\\r.{C=#Ar|{D=(#Br1)|{}}}{B=2|{}})", -3000, 0);
        // From what, then to what.
        fault("(\\f.{A=(f1)|{B=#A(f1)|{}}}\\x.#Ax)", -2000, NONE);
    }

    private static void defines() {
        RowTypes x = new RowTypes();
        due(5, "IT", Talk.infers(x, "{}"), 1);
        for (int k = 0; k < 8; k++) {
            due(5, "defines " + k, Talk.defines(x, k == 0 ? "1" : "{A=" + (char) ('p' + k - 1) + "|{}}"), k);
        }
        due(5, "IT stays", Talk.type(x, IT), "{}");
        due(5, "w", Talk.type(x, 7), "{A:{A:{A:{A:{A:{A:{A:I}}}}}}}");
        x.size(IT);
        due(5, "a ninth", Talk.defines(x, "1"), -300);
        due(5, "the text is empty", x.count(4), 0);
        due(5, "the ROW stays", Talk.row(x), "0 0");
        due(5, "a ninth with a fault", Talk.defines(x, "(11)"), -300);
        due(5, "a ninth with a sign", Talk.defines(x, "(1"), -3);
        due(5, "infers goes on", Talk.infers(x, "w"), 8);
        due(5, "eight", x.count(0), 8);
    }

    private static void forgets() {
        RowTypes x = with("1", "{A=p|{}}", "\\x.q");
        due(6, "below 0", x.forgets(-1), NONE);
        due(6, "above", x.forgets(4), NONE);
        due(6, "as many as there are", x.forgets(3), 0);
        Talk.infers(x, "{B=p|{C=q|{}}}");
        due(6, "the last one", x.forgets(2), 1);
        due(6, "IT stays", x.count(1), 1);
        due(6, "none such", x.size(2), NONE);
        due(6, "two", x.forgets(0), 2);
        due(6, "IT goes", x.count(1), 0);
        due(6, "none left", x.count(0), 0);
        due(6, "p is unknown", Talk.infers(x, "p"), -1000);
        due(6, "p is new", Talk.defines(x, "{}"), 0);
        Talk.infers(x, "\\p.$q=p;q");
        due(6, "names that IT binds itself", x.forgets(0), 1);
        due(6, "IT stays", x.count(1), 1);
        x.closes(IT);
        x.forgets(0);
        due(6, "THE ANSWER stays", x.count(2), 1);
    }

    private static void size() {
        RowTypes x = with("\\r.\\v.?v[Ay.{A=y|r};*o.{A=1|r}]");
        due(7, "size", x.size(0), 10);
        due(7, "written", Talk.type(x, 0), "({|a}>(<A:I|b>>{A:I|a}))");
        due(7, "the ROW", Talk.row(x), "2 2");
        due(7, "none such", x.size(1), NONE);
        due(7, "none such", x.size(-3), NONE);
        due(7, "the ROW stays", Talk.row(x), "2 2");
        due(7, "no variables", it("1").size(IT), 1);
        due(7, "a function", it("\\x.\\y.x").size(IT), 5);
    }

    private static void type() {
        RowTypes x = it("\\x.<Ax>");
        due(8, "type", Talk.type(x, IT), "(a><A:a|b>)");
        due(8, "how many", x.type(IT, NONE), 11);
        due(8, "behind", x.type(IT, 11), NONE);
        due(8, "below", x.type(IT, -2), NONE);
        due(8, "none such", x.type(0, 0), NONE);
        due(8, "no answer", x.type(ANSWER, NONE), NONE);
        due(8, "empty variant", Talk.type(afterClosing(it("\\v.?v[*o.1]")), ANSWER), "(<>>I)");
        // More variables than letters.
        x = with("\\a.\\b.\\c.\\d.\\e.\\f.\\g.\\h.1", "\\z.p");
        String eight = "(%s>(%s>(%s>(%s>(%s>(%s>(%s>(%s>I))))))))";
        Talk.infers(x, "{A=p|{B=p|{C=p|{}}}}");
        String[] names = new String[24];
        for (int i = 0; i < 24; i++) {
            names[i] = String.valueOf((char) ('a' + i));
        }
        due(8, "24 variables", Talk.type(x, IT),
                String.format("{A:" + eight + ",B:" + eight + ",C:" + eight + "}", (Object[]) names));
        Talk.infers(x, "{A=p|{B=p|{C=\\z.p|{D=\\z.1|{}}}}}");
        String written = Talk.type(x, IT);
        due(8, "after z comes a1", written.substring(written.indexOf(",C:")),
                ",C:(q>(r>(s>(t>(u>(v>(w>(x>(y>I))))))))),D:(z>I)}");
        Talk.infers(x, "{A=p|{B=p|{C=\\z.p|{D=\\z.\\y.1|{}}}}}");
        written = Talk.type(x, IT);
        due(8, "after z comes a1", written.substring(written.indexOf(",D:")), ",D:(z>(a1>I))}");
        manyVariables();
    }

    private static RowTypes afterClosing(RowTypes x) {
        x.closes(IT);
        return x;
    }

    private static void manyVariables() {
        RowTypes x = with("\\a.\\b.\\c.\\d.\\e.\\f.\\g.\\h.1");
        due(8, "fields", Talk.infers(x, "\\r.\\s.{A=#Ar|{B=#Br|{C=#Cr|{D=#Ds|{E=#Es|{}}}}}}"), 17);
        due(8, "order is that of writing", Talk.type(x, IT),
                "({A:a,B:b,C:c|d}>({D:e,E:f|g}>{A:a,B:b,C:c,D:e,E:f}))");
    }

    private static void lacks() {
        RowTypes x = it("\\r.~AC-Br");
        due(9, "written", Talk.type(x, IT), "({A:a,B:b|c}>{C:a|c})");
        due(9, "no row variable", x.lacks(IT, 0), -2);
        due(9, "no row variable", x.lacks(IT, 1), -2);
        due(9, "A, B, C", x.lacks(IT, 2), 7);
        due(9, "none such", x.lacks(IT, 3), NONE);
        due(9, "below 0", x.lacks(IT, -1), NONE);
        due(9, "none such w", x.lacks(0, 0), NONE);
        due(9, "a variant", it("<H1>").lacks(IT, 0), 128);
        due(9, "the others", it("\\v.?v[Ax.1;Cy.2;*o.3]").lacks(IT, 2), 5);
        due(9, "nothing", it("\\v.?v[*o.1]").lacks(IT, 0), 0);
        due(9, "& with {}", it("\\r.&r{}").lacks(IT, 0), 0);
        due(9, "both", it("\\r.\\s.{A=?<A{B=1|r}>[Ax.x;*y.s]|{B={C=1|s}|{}}}").lacks(IT, 0), 2 | 4);
    }

    private static void sort() {
        RowTypes x = it("1");
        due(10, "a number", x.sort(IT), 0);
        due(10, "no ROW", x.count(3), 0);
        x = it("\\x.x");
        due(10, "a function", x.sort(IT), 1);
        x.side(IT, 0);
        x.size(IT);
        due(10, "a variable", x.sort(ANSWER), 4);
        due(10, "no ROW", x.count(3), 0);
        x = it("{C=1|{A=2|{}}}");
        due(10, "a record", x.sort(IT), 2);
        due(10, "the ROW", Talk.row(x), "5 0 0");
        x = it("<B1>");
        due(10, "a variant", x.sort(IT), 3);
        due(10, "the ROW", Talk.row(x), "2 1 2");
        due(10, "none such", x.sort(0), NONE);
        due(10, "the ROW stays", Talk.row(x), "2 1 2");
    }

    private static void needs() {
        RowTypes x = it("\\r.#Cr");
        due(11, "a record", x.needs(IT), 0);
        due(11, "the ROW", Talk.row(x), "4 1 4");
        x = it("\\v.?v[Ax.1;By.2]");
        due(11, "a variant", x.needs(IT), 1);
        due(11, "the ROW", Talk.row(x), "3 0 0");
        due(11, "none such", x.needs(0), NONE);
        Talk.infers(x, "\\x.x");
        due(11, "from a variable", x.needs(IT), -2);
        due(11, "the ROW stays", Talk.row(x), "3 0 0");
        Talk.infers(x, "{A=1|{}}");
        due(11, "no function", x.needs(IT), -2);
        x = it("\\r.{A=1|-Br}");
        due(11, "must not have", x.needs(IT), 0);
        due(11, "the ROW", Talk.row(x), "2 1 3");
    }

    private static void field() {
        RowTypes x = it("{A=\\x.x|{C=\\y.\\z.z|{}}}");
        due(12, "A", x.field(IT, 0), 3);
        due(12, "A", Talk.type(x, ANSWER), "(a>a)");
        due(12, "C", x.field(IT, 2), 5);
        due(12, "numbered anew", Talk.type(x, ANSWER), "(a>(b>b))");
        due(12, "B", x.field(IT, 1), -2);
        due(12, "no label", x.field(IT, 8), NONE);
        due(12, "no label", x.field(IT, -1), NONE);
        due(12, "none such", x.field(0, 0), NONE);
        due(12, "THE ANSWER stays", Talk.type(x, ANSWER), "(a>(b>b))");
        due(12, "of THE ANSWER", x.field(ANSWER, 0), -2);
        due(12, "a variant", it("<B{}>").field(IT, 1), 1);
        x = it("<A<B<C1>>>");
        due(12, "<B..>", x.field(IT, 0), 5);
        due(12, "<C..>", x.field(ANSWER, 1), 3);
        due(12, "I", x.field(ANSWER, 2), 1);
        due(12, "no row", x.field(ANSWER, 2), -2);
        due(12, "no label is ahead of no row", x.field(ANSWER, 9), NONE);
    }

    private static void side() {
        RowTypes x = it("\\x.\\r.#Ar");
        due(13, "from", x.side(IT, 0), 1);
        due(13, "to", x.side(IT, 1), 5);
        due(13, "numbered anew", Talk.type(x, ANSWER), "({A:a|b}>a)");
        due(13, "lacks", x.lacks(ANSWER, 1), 1);
        due(13, "another which", x.side(IT, 2), NONE);
        due(13, "another which", x.side(IT, -1), NONE);
        due(13, "none such", x.side(0, 0), NONE);
        due(13, "from of THE ANSWER", x.side(ANSWER, 0), 3);
        due(13, "no function", x.side(ANSWER, 0), -2);
        due(13, "another which is ahead", x.side(ANSWER, 2), NONE);
        due(13, "THE ANSWER stays", Talk.type(x, ANSWER), "{A:a|b}");
    }

    private static void closes() {
        RowTypes x = it("\\r.\\v.?v[Ax.#Br;*o.1]");
        due(14, "size", x.size(IT), 9);
        due(14, "closes", x.closes(IT), 7);
        due(14, "written", Talk.type(x, ANSWER), "({B:I}>(<A:a>>I))");
        due(14, "IT stays", x.size(IT), 9);
        due(14, "again", x.closes(ANSWER), 7);
        due(14, "none such", x.closes(0), NONE);
        due(14, "variables stay", it("\\x.x").closes(IT), 3);
    }

    private static void fits() {
        RowTypes x = it("\\r.#Ar");
        due(15, "record", Talk.fits(x, IT, "({A:I}>I)"), 1);
        due(15, "wider", Talk.fits(x, IT, "({B:I,A:{},C:<>}>{})"), 1);
        due(15, "too narrow", Talk.fits(x, IT, "({B:I}>I)"), 0);
        due(15, "not the same", Talk.fits(x, IT, "({A:I}>{})"), 0);
        due(15, "no function", Talk.fits(x, IT, "I"), 0);
        x.size(IT);
        due(15, "two records", Talk.fits(x, IT, "({A:{B:I}}>{B:I})"), 1);
        due(15, "clash", Talk.fits(x, IT, "<>"), 0);
        due(15, "the ROW stays", Talk.row(x), "2 1");
        due(15, "no ANSWER", x.count(2), 0);
        due(15, "a variable", Talk.fits(x, IT, "({A:a}>I)"), -1 - 4);
        due(15, "an END", Talk.fits(x, IT, "({A:I|a}>I)"), -1 - 5);
        due(15, "twice", Talk.fits(x, IT, "({A:I,B:I,A:I}>I)"), -1 - 10);
        due(15, "no label", Talk.fits(x, IT, "{I:I}"), -1 - 1);
        due(15, "a comma too many", Talk.fits(x, IT, "{A:I,}"), -1 - 5);
        due(15, "no colon", Talk.fits(x, IT, "{AI}"), -1 - 2);
        due(15, "the wrong close", Talk.fits(x, IT, "{A:I>"), -1 - 4);
        due(15, "the wrong close", Talk.fits(x, IT, "<}"), -1 - 1);
        due(15, "nothing", Talk.fits(x, IT, ""), -1);
        due(15, "ends early", Talk.fits(x, IT, "(I>"), -1 - 3);
        due(15, "one too many", Talk.fits(x, IT, "II"), -1 - 1);
        due(15, "deep", Talk.fits(x, IT, "(".repeat(100)), -1 - 100);
        Talk.tell(x, "I");
        due(15, "none such", x.fits(0), NONE);
        due(15, "the text is empty", x.count(4), 0);
        due(15, "a variant", Talk.fits(it("<A1>"), IT, "<B:{},A:I>"), 1);
        due(15, "a variant that lacks A", Talk.fits(it("<A1>"), IT, "<B:{}>"), 0);
        due(15, "lacks", Talk.fits(it("\\r.{A=1|r}"), IT, "({A:I}>{A:I})"), 0);
    }

    private static void aboveDue(String a, String b, int there, int back) {
        RowTypes x = with(a, b);
        due(16, a + " above " + b, x.above(0, 1), there);
        due(16, b + " above " + a, Talk.row(x), String.valueOf(back));
        due(16, b + " above " + a, x.above(1, 0), back);
    }

    private static void above() {
        aboveDue("\\x.x", "\\x.x", 1, 1);
        aboveDue("\\x.x", "\\x.(\\y.y(\\x.x{A=x|{}}))", 0, 0);
        aboveDue("\\x.\\y.x", "\\x.x", 0, 0);
        aboveDue("\\x.x", "(\\f.\\x.(fx)\\r.{A=#Ar|-Ar})", 1, 0);
        aboveDue("\\x.\\y.1", "\\x.\\y.?<Ax>[Az.1;*o.?<Ay>[Ab.1;*c.2]]", 1, 1);
        aboveDue("\\x.\\y.{A=x|{B=y|{}}}", "\\x.\\y.?<Ax>[Az.{A=x|{B=y|{}}};By.{A=y|{B=x|{}}}]", 1, 0);
        aboveDue("<A1>", "?<A1>[Ax.<Ax>;*o.<B1>]", 1, 0);
        aboveDue("\\r.#Ar", "\\r.$b=#Br;#Ar", 1, 0);
        aboveDue("\\r.&r{}", "\\r.{A=#Ar|-Ar}", 1, 0);
        aboveDue("1", "{}", 0, 0);
        aboveDue("{}", "{A=1|{}}", 0, 0);
        // Rows: an END may not be one that lacks less.
        aboveDue("\\r.-B{B=1|r}", "\\r.&r{}", 0, 1);
        aboveDue("\\r.-B{B=1|r}", "\\r.-C{C=1|r}", 0, 0);
        aboveDue("\\r.-B{B=1|r}", "\\r.-B{B=1|-C{C=2|r}}", 1, 0);
        aboveDue("\\r.-B{B=1|r}", "\\r.{B=#Br|-Br}", 0, 0);
        aboveDue("\\r.-B{B=1|r}", "\\r.{A=#Ar|-A-B{B=1|r}}", 1, 0);
        // The same END must be the same row.
        aboveDue("\\r.\\s.{A=r|{B=s|{}}}", "\\r.\\s.{A={C=1|r}|{B={C=1|s}|{}}}", 0, 0);
        aboveDue("\\r.\\s.{A={C=1|r}|{B={C=1|s}|{}}}", "\\r.\\s.{A={C=1|r}|{B={C=1|r}|{}}}", 0, 0);
        RowTypes x = with("1");
        x.size(0);
        due(16, "none such", x.above(0, 1), NONE);
        due(16, "none such", x.above(IT, 0), NONE);
        due(16, "the ROW stays", Talk.row(x), "0 0");
    }

    private static void meets() {
        RowTypes x = with("\\r.#Ar", "\\r.#Br", "\\r.{A=1|r}", "1", "\\x.x", "\\r.(#Ar1)");
        due(17, "two fields", x.meets(0, 1), 6);
        due(17, "written", Talk.type(x, ANSWER), "({A:a,B:a|b}>a)");
        due(17, "lacks", x.lacks(ANSWER, 1), 3);
        x.size(3);
        due(17, "clash", x.meets(0, 3), -2000);
        due(17, "the ROW", Talk.row(x), "-1");
        due(17, "THE ANSWER stays", x.count(2), 1);
        due(17, "twice", x.meets(2, 4), -5000);
        due(17, "A", x.field(ANSWER, 0), -2);
        x.side(2, 0);
        due(17, "{|a} lacks A", x.lacks(ANSWER, 0), 1);
        Talk.infers(x, "{A=1|{}}");
        due(17, "twice", x.meets(ANSWER, IT), -4000);
        due(17, "the ROW", Talk.row(x), "0");
        due(17, "twice", x.meets(IT, ANSWER), -4000);
        Talk.infers(x, "{B=1|{}}");
        due(17, "with itself", x.meets(ANSWER, ANSWER), 2);
        due(17, "B", x.meets(ANSWER, IT), 2);
        due(17, "written", Talk.type(x, ANSWER), "{B:I}");
        Talk.infers(x, "{}");
        due(17, "missing", x.meets(ANSWER, IT), -3000);
        due(17, "the ROW", Talk.row(x), "1");
        due(17, "the ROW stays", x.meets(ANSWER, 6), NONE);
        due(17, "the ROW", Talk.row(x), "1");
        tooGreat();
    }

    private static void tooGreat() {
        RowTypes x = with("\\x.{A=x|{B=x|{}}}", "\\x.(p(p(px)))", "\\x.\\f.(fx)", "\\x.{A=\\f.x|{}}");
        due(17, "q", x.size(1), 17);
        due(17, "not too great", Talk.infers(x, "\\x.\\y.{A=(qx)|{B=y|{}}}"), 21);
        Talk.defines(x, "\\x.\\y.{A=y|{B=(qx)|{}}}");
        due(17, "fits in", x.meets(IT, 4), 49);
        x.size(0);
        Talk.infers(x, "(q(p1))");
        due(18, "too great", x.applies(1, IT), -7000);
        due(18, "the ROW", Talk.row(x), "-1");
        Talk.infers(x, "\\x.\\y.{A=(qx)|{B=y|{C=(qx)|{}}}}");
        due(17, "size", x.size(IT), 36);
        Talk.defines(x, "\\x.\\y.{A=y|{B=(qx)|{C=(qx)|{}}}}");
        due(17, "size", x.size(5), 36);
        due(17, "too great", x.meets(IT, 5), -7000);
        due(17, "the ROW", Talk.row(x), "-1");
        due(17, "too great", x.meets(5, IT), -7000);
    }

    private static void applies() {
        RowTypes x = with("\\r.#Ar", "{A=\\x.x|{}}", "\\x.x", "{B=1|{}}", "\\x.\\y.x");
        due(18, "(p q)", x.applies(0, 1), 3);
        due(18, "written", Talk.type(x, ANSWER), "(a>a)");
        due(18, "(r r)", x.applies(2, 2), 3);
        due(18, "missing", x.applies(0, 3), -3000);
        due(18, "the ROW", Talk.row(x), "0");
        due(18, "clash", x.applies(1, 0), -2000);
        due(18, "the ROW", Talk.row(x), "-1");
        due(18, "THE ANSWER stays", Talk.type(x, ANSWER), "(a>a)");
        due(18, "new variables", x.applies(4, 2), 5);
        due(18, "written", Talk.type(x, ANSWER), "(a>(b>b))");
        due(18, "a variable as function", x.side(2, 0), 1);
        due(18, "becomes one", x.applies(ANSWER, 3), 1);
        due(18, "a variable", x.sort(ANSWER), 4);
        due(18, "none such", x.applies(5, 0), NONE);
        due(18, "none such", x.applies(0, IT), NONE);
    }

    private static void part() {
        RowTypes x = it("(\\x.#Ax{A=1|{}})");
        due(19, "the function", x.part(IT, 1), 4);
        due(19, "in the end", Talk.type(x, ANSWER), "({A:I}>I)");
        due(19, "x", x.part(IT, 6), 2);
        due(19, "#A", x.part(IT, 4), 1);
        due(19, "the whole", x.part(IT, 0), 1);
        due(19, "a NAME of a function", x.part(IT, 2), -2);
        due(19, "behind", x.part(IT, 16), -2);
        due(19, "below", x.part(IT, -1), -2);
        due(19, "far", x.part(IT, 1000), -2);
        due(19, "THE ANSWER stays", Talk.type(x, ANSWER), "I");
        due(19, "THE ANSWER has no expression", x.part(ANSWER, 0), NONE);
        due(19, "none such", x.part(0, 0), NONE);
        x = it("$f=\\x.x;(f1)");
        due(19, "of $ its own variables", x.part(IT, 3), 3);
        due(19, "written", Talk.type(x, ANSWER), "(a>a)");
        due(19, "where it is used", x.part(IT, 9), 3);
        due(19, "written", Talk.type(x, ANSWER), "(I>I)");
        x = it("?<A1>[Ax.x;*o.2]");
        due(19, "a branch", x.part(IT, 9), 1);
        due(19, "its LABEL", x.part(IT, 6), -2);
        due(19, "the variant", x.part(IT, 1), 3);
        // b becomes 9 in SIZE by e, then e becomes 9: b is 73 when its own type was found before.
        x = with("\\x.{A=x|{B=x|{C=x|{D=x|{E=x|{F=x|{G=x|{H=x|{}}}}}}}}}", "\\x.\\y.\\f.{A=(fx)|{B=(fy)|{}}}",
                "\\x.\\y.1");
        due(19, "infers", Talk.infers(x, "?<A1>[Ax.1;Bb.?<A1>[Ay.1;Be.((r((qb)(pe)))((qe)(p1)))]]"), 1);
        due(19, "written", x.size(IT), 1);
        x.sort(IT);
        due(19, "b", x.part(IT, 34), -7000);
        due(19, "no FAULT: the ROW stays", x.count(3), 0);
        due(19, "no ANSWER", x.count(2), 0);
        due(19, "(pe)", x.part(IT, 36), -7000);
        due(19, "e", x.part(IT, 38), 9);
        due(19, "a definition", x.part(0, 0), 11);
    }

    private static void steps() {
        RowTypes x = it("(q{A=(p1)|{}})", "\\x.x", "\\r.#Ar");
        due(20, "steps", x.steps(IT), 12);
        due(20, "the ROW", Talk.row(x), "0 1");
        due(20, "a function", x.steps(0), 1);
        due(20, "the ROW", Talk.row(x), "1 -1");
        due(20, "a number", it("7").steps(IT), 1);
        x = it("$x={A=1|{C=2|{}}};-Ax");
        due(20, "$", x.steps(IT), 8);
        due(20, "the ROW", Talk.row(x), "2 4");
        x = it("?<B{}>[Ax.<A1>;*o.<Do>]");
        due(20, "?", x.steps(IT), 5);
        due(20, "the ROW", Talk.row(x), "3 3");
        due(20, "&", it("&~AB{A=1|{}}{C=2|{}}").steps(IT), 8);
        // A definition is worked out anew each time.
        x = it("{A=p|{B=p|{}}}", "(\\x.x1)");
        due(20, "anew", x.steps(IT), 3 + 2 * 5);
        // Twice twice twice ...: f^n needs n calls.
        x = with("\\f.\\x.(f(fx))", "\\x.x");
        Talk.infers(x, "((pq)1)");
        // ( ( p, its function, q, its function; 1; ( f ( f x, x, x and the function's x twice.
        due(20, "twice", x.steps(IT), 15);
        Talk.infers(x, "(((pp)q)1)");
        due(20, "four times", x.steps(IT) > 0 ? 1 : 0, 1);
        Talk.infers(x, "((((pp)p)q)1)");
        due(20, "sixteen times", x.steps(IT) > 0 ? 1 : 0, 1);
        Talk.infers(x, "(((((pp)p)p)q)1)");
        due(20, "more than 500", x.steps(IT), -2);
        due(20, "the ROW stays", Talk.row(x), "0 1");
        due(20, "none such", x.steps(2), NONE);
        due(20, "none such", x.steps(ANSWER), NONE);
        exactlyFiveHundred();
    }

    /** {A=E|..} of definitions: a number of steps that can be told by hand. */
    private static void exactlyFiveHundred() {
        // p: 15 steps: 7 fields, {} and 7 numbers. q: fields of p, each 1 + 15.
        String p = "{A=1|{B=1|{C=1|{D=1|{E=1|{F=1|{G=1|{}}}}}}}}";
        RowTypes x = with(p, "#Ap", "{A=q|{B=q|{C=q|{D=q|{E=q|{F=q|{G=q|{}}}}}}}}");
        due(20, "p", x.steps(0), 15);
        due(20, "q", x.steps(1), 17);
        // r: 7 + 1 + 7 * (1 + 17)
        due(20, "r", x.steps(2), 134);
        due(20, "s", Talk.defines(x, "{A=#Ar|{B=#Ar|{C=#Ar|{}}}}"), 3);
        // 3 + 1 + 3 * (2 + 134)
        due(20, "s", x.steps(3), 412);
        // 3 + 1 + 412 + 1 ... 500 and 501.
        Talk.infers(x, "{A=s|{B=q|{C=q|{D=q|{E=p|{}}}}}}");
        // 5 + 1 + 413 + 3 * 18 + 16
        due(20, "489", x.steps(IT), 489);
        Talk.infers(x, "{A=s|{B=q|{C=q|{D=q|{E=p|{F=1|{G=(\\x.x1)|{H=1|{}}}}}}}}}");
        // 3 more fields, 1, 4, 1
        due(20, "498", x.steps(IT), 498);
        Talk.infers(x, "{A=s|{B=q|{C=q|{D=q|{E=p|{F=1|{G=(\\x.x1)|{H=#A{A=1|{}}|{}}}}}}}}}");
        due(20, "501", x.steps(IT), -2);
        due(20, "501", x.value(IT, 0), -2);
        due(20, "501", x.taken(IT, 0), -2);
        Talk.infers(x, "{A=s|{B=q|{C=q|{D=q|{E=p|{F=1|{G=(\\x.x1)|{H={A=1|{}}|{}}}}}}}}}");
        due(20, "500", x.steps(IT), 500);
        due(20, "the ROW", Talk.row(x), "2 255");
        due(21, "500", x.value(IT, 0), '{');
        due(22, "500", x.taken(IT, 7), 2);
    }

    private static void value() {
        RowTypes x = it("{C=<A\\x.x>|{A={}|{B=3|{}}}}");
        due(21, "value", Talk.value(x, IT), "{A={},B=3,C=<A\\>}");
        due(21, "how many", x.value(IT, NONE), 17);
        due(21, "behind", x.value(IT, 17), NONE);
        due(21, "below", x.value(IT, -2), NONE);
        due(21, "none such", x.value(0, 0), NONE);
        due(21, "none such", x.value(ANSWER, 0), NONE);
        due(21, "A and H", Talk.value(it("{H=<H1>|{A=2|{}}}"), IT), "{A=2,H=<H1>}");
        due(21, "~", Talk.value(it("~AB{A=1|{C=2|{}}}"), IT), "{B=1,C=2}");
        due(21, "&", Talk.value(it("&{B=1|{}}{A=2|{}}"), IT), "{A=2,B=1}");
        due(21, "-", Talk.value(it("-A{A=1|{C=2|{}}}"), IT), "{C=2}");
        due(21, "the others keep the variant", Talk.value(it("?<B1>[Ax.<Cx>;*o.o]"), IT), "<B1>");
        due(21, "a branch", Talk.value(it("?<A1>[Ax.<Cx>;*o.o]"), IT), "<C1>");
        due(21, "names where they stand", Talk.value(it("$x=1;$f=\\y.x;$x=2;(fx)"), IT), "1");
        x = with("1", "\\x.{A=p|{B=x|{}}}");
        Talk.infers(x, "\\p.(qp)");
        Talk.infers(x, "(\\p.(qp)2)");
        due(21, "definitions know no names", Talk.value(x, IT), "{A=1,B=2}");
        due(21, "of a definition", Talk.value(x, 0), "1");
        x.forgets(0);
        Talk.defines(x, "2");
        due(21, "anew", Talk.value(x, 0), "2");
    }

    private static void taken() {
        RowTypes x = it("{A=7|{B={C=1|{}}|{C=<D2>|{D=\\x.x|{}}}}}");
        due(22, "A", x.taken(IT, 0), 0);
        due(22, "A", Talk.row(x), "7");
        due(22, "B", x.taken(IT, 1), 2);
        due(22, "B", Talk.row(x), "4");
        due(22, "C", x.taken(IT, 2), 3);
        due(22, "C", Talk.row(x), "3");
        due(22, "D", x.taken(IT, 3), 1);
        due(22, "D", Talk.row(x), "-1");
        due(22, "E", x.taken(IT, 4), -3);
        due(22, "no label", x.taken(IT, 8), NONE);
        due(22, "no label", x.taken(IT, -1), NONE);
        due(22, "none such", x.taken(0, 0), NONE);
        due(22, "THE ANSWER", x.taken(ANSWER, 0), NONE);
        x = it("<D2>");
        due(22, "a variant", x.taken(IT, 3), 0);
        due(22, "the ROW", Talk.row(x), "2");
        due(22, "another label", x.taken(IT, 2), -3);
        due(22, "a number", it("1").taken(IT, 0), -3);
        due(22, "a function", it("\\x.x").taken(IT, 0), -3);
        x = with("\\f.\\x.(f(fx))", "\\x.x");
        Talk.infers(x, "(((((pp)p)p)q)1)");
        due(22, "more than 500", x.taken(IT, 0), -2);
        due(22, "no label comes ahead", x.taken(IT, 8), NONE);
    }

    private static void parts() {
        RowTypes x = it("$f=\\x.x;{A=(f1)|&~AB-C{C=1|{A=2|{}}}{D=?<A{}>[Ay.y;*o.#A{A={}|{}}]|{}}}");
        due(23, "parts", x.parts(IT), 25);
        due(23, "the ROW", Talk.row(x), "3 3 1 1 1 5 5 3 1 1 1");
        due(23, "none such", x.parts(0), NONE);
        due(23, "THE ANSWER", x.parts(ANSWER), NONE);
        due(23, "one", it("1").parts(IT), 1);
    }

    private static void often() {
        RowTypes x = it("{A=~AB#A{A={A=1|{}}|{}}|?<B<A1>>[Bx.?x[Ay.{}];Az.{}]}");
        due(24, "A", x.often(IT, 0), 8);
        due(24, "A", Talk.row(x), "3 2 1 2");
        due(24, "B", x.often(IT, 1), 3);
        due(24, "B", Talk.row(x), "0 1 1 1");
        due(24, "C", x.often(IT, 2), 0);
        due(24, "C", Talk.row(x), "0 0 0 0");
        due(24, "-", it("-A{A=1|{}}").often(IT, 0), 2);
        due(24, "no label", x.often(IT, 8), NONE);
        due(24, "no label", x.often(IT, -1), NONE);
        due(24, "none such", x.often(0, 0), NONE);
        due(24, "THE ANSWER", x.often(ANSWER, 0), NONE);
    }

    private static void free() {
        RowTypes x = it("(q{A=(p1)|{}})", "\\x.x", "\\r.#Ar");
        due(25, "p, q", x.free(IT), 1 << 15 | 1 << 16);
        due(25, "the ROW", Talk.row(x), "4");
        due(25, "none free", x.free(1), 0);
        due(25, "the ROW", Talk.row(x), "3");
        due(25, "bound in the second part alone", it("$p=p;p", "1").free(IT), 1 << 15);
        due(25, "bound in a branch", it("?<A1>[Ap.p;*q.1]", "1").free(IT), 0);
        due(25, "bound in another branch", it("?<A1>[Ap.1;*q.p]", "1").free(IT), 1 << 15);
        x = it("?<A1>[Ax.1;*y.{A=1|{}}]".replace("Ax.1", "Ax.{A=x|{}}"));
        due(25, "names of branches", x.free(IT), 0);
        due(25, "branches are within", Talk.row(x), "3");
        due(25, "bound beside it", it("{A=\\p.p|{B=p|{}}}", "1").free(IT), 1 << 15);
        x = it("1");
        due(25, "one alone", x.free(IT), 0);
        due(25, "one alone", Talk.row(x), "1");
        x = with("{A=1|{}}");
        Talk.infers(x, "~AB".concat("~BA~AB".repeat(15)) + "p");
        x.free(IT);
        due(25, "deep", Talk.row(x), "32");
        due(25, "none such", x.free(1), NONE);
        due(25, "THE ANSWER", x.free(ANSWER), NONE);
    }

    private static void count() {
        RowTypes x = with("1", "{}");
        due(26, "definitions", x.count(0), 2);
        due(26, "no IT", x.count(1), 0);
        Talk.infers(x, "p");
        due(26, "IT", x.count(1), 1);
        due(26, "no ANSWER", x.count(2), 0);
        x.closes(IT);
        due(26, "THE ANSWER", x.count(2), 1);
        x.parts(IT);
        due(26, "the ROW", x.count(3), 11);
        x.sign(0x31313131);
        due(26, "signs", x.count(4), 4);
        due(26, "another", x.count(5), NONE);
        due(26, "another", x.count(-1), NONE);
    }

    private static void row() {
        RowTypes x = it("<C1>");
        due(27, "none yet", throwsNoSuch(x, 0) ? 1 : 0, 1);
        x.sort(IT);
        due(27, "0", x.row(0), 4);
        due(27, "1", x.row(1), 1);
        due(27, "2", x.row(2), 4);
        due(27, "3", throwsNoSuch(x, 3) ? 1 : 0, 1);
        due(27, "below 0", throwsNoSuch(x, -1) ? 1 : 0, 1);
        due(27, "far", throwsNoSuch(x, Integer.MAX_VALUE) ? 1 : 0, 1);
        x.free(IT);
        due(27, "told last", x.row(0), 2);
        due(27, "told last", throwsNoSuch(x, 1) ? 1 : 0, 1);
    }

    /** What each call tells stands alone in the ROW, whatever stood there. */
    private static void rowToldAnew() {
        String[] due = {"2 1", "4 1 4", "4 1 4", "1", "1 -1", "0 1 1 0 0 0 0 1 0 0 0", "0 1 0 0", "3", "3", "-1", "-1", "-1"};
        for (int before = 0; before < due.length; before++) {
            for (int call = 0; call < due.length; call++) {
                RowTypes x = it("\\r.#Cr", "{A=3|{}}");
                x.side(IT, 0);
                tells(x, before);
                tells(x, call);
                due(27, "call " + call + " behind " + before, Talk.row(x), due[call]);
            }
        }
    }

    private static void tells(RowTypes x, int call) {
        switch (call) {
            case 0: x.size(IT); break;
            case 1: x.sort(ANSWER); break;
            case 2: x.needs(IT); break;
            case 3: x.above(IT, IT); break;
            case 4: x.steps(IT); break;
            case 5: x.parts(IT); break;
            case 6: x.often(IT, 2); break;
            case 7: x.free(IT); break;
            case 8: x.taken(0, 0); break;
            case 9: Talk.infers(x, "(11)"); break;
            case 10: x.meets(0, IT); break;
            default: x.applies(0, 0); break;
        }
    }
}
