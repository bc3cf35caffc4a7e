/** The document's promises 1 to 27, sentence by sentence in their order. */
final class DocumentPromises {
    private static final int NONE = Asked.NONE;
    private static final int IT = Asked.IT;
    private static final int ANSWER = Asked.ANSWER;
    private static final int LEAST = Asked.LEAST;
    private static final int MOST = Asked.MOST;
    private static final String TWICE = "\\f.\\x.(f(fx))";
    // With p: TWICE, it takes more than 500 steps.
    private static final String LONG = "(((((pp)p)p)\\x.x)1)";
    private static final String ALL = "{A=1|{B=2|{C=3|{D=4|{E=5|{F=6|{G=7|{H=8|{}}}}}}}}}";

    private DocumentPromises() { }

    static void go() {
        newObject();
        sign();
        end();
        infers();
        defines();
        forgets();
        size();
        type();
        lacks();
        sort();
        needs();
        field();
        side();
        closes();
        fits();
        above();
        meets();
        applies();
        part();
        steps();
        value();
        taken();
        parts();
        often();
        free();
        count();
        row();
    }

    // ---- expressions

    private static void newObject() {
        Due.next("## Promise 1: A new object `RowTypes()`: No DEFINITIONS, no IT.");
        RowTypes x = Asked.it("1", "2");
        x = new RowTypes();
        Due.due("definitions", x.count(0), 0);
        Due.due("IT", x.count(1), 0);
        for (int w = -3; w < 10; w++) {
            Due.due("type of " + w, x.size(w), NONE);
            Due.due("text of " + w, x.free(w), NONE);
        }
        Due.due("forgets", x.forgets(0), 0);
    }

    private static void sign() {
        Due.next("## Promise 2: sign `int sign(int v)`: Four signs come behind THE TEXT, of v the highest byte first: how many it has.");
        RowTypes x = new RowTypes();
        Due.due("{A=1", x.sign(0x7B413D31), 4);
        Due.due("|{}}", x.sign(0x7C7B7D7D), 8);
        Due.due("infers", x.infers(), 2);
        Due.due("written", Talk.type(x, IT), "{A:I}");
        Due.due("8", x.sign(0x80FF0001), 4);
        Due.due("the highest byte can't stand there", x.infers(), -1);
        Due.next("Refused: there would be more than 100.");
        for (int n = 4; n <= 100; n += 4) {
            Due.due("up to 100", x.sign(0x23412341), n);
        }
        Due.due("104", x.sign(0x23412341), NONE);
        Due.due("100 stay", x.count(4), 100);
        Due.due("and are read", x.infers(), -101);
        for (int n = 4; n <= 100; n += 4) {
            x.sign(0x23412341);
        }
        x.end(97);
        Due.due("101", x.sign(0), NONE);
        x.end(96);
        Due.due("100", x.sign(0), 100);
    }

    private static void end() {
        Due.next("## Promise 3: end `boolean end(int n)`: THE TEXT has its first n signs alone: true;");
        RowTypes x = new RowTypes();
        x.sign(0x3C413139);
        x.sign(0x3E3E3E3E);
        Due.due("end 3", x.end(3), true);
        Due.due("three signs", x.count(4), 3);
        x.sign(0x3E3E3E3E);
        Due.due("end 4", x.end(4), true);
        Due.due("<A1>", x.infers(), 3);
        Due.due("end 0 of none", x.end(0), true);
        Due.next("false if it has not so many, or n is below 0.");
        x.sign(0x31313131);
        for (int n : new int[] {LEAST, -100, -1, 5, 6, 100, MOST}) {
            Due.due("end " + n, x.end(n), false);
            Due.due("four signs", x.count(4), 4);
        }
        Due.due("end 4", x.end(4), true);
    }

    private static void infers() {
        Due.next("## Promise 4: infers `int infers()`: THE TEXT is an EXPRESSION: IT, if it has a TYPE: SIZE.");
        RowTypes x = new RowTypes();
        Due.due("SIZE", Talk.infers(x, "\\r.&r" + ALL), 13);
        Due.due("IT", Talk.type(x, IT), "({|a}>{A:I,B:I,C:I,D:I,E:I,F:I,G:I,H:I|a})");
        Due.due("another one", Talk.infers(x, "1"), 1);
        Due.due("IT", Talk.type(x, IT), "I");
        Due.due("none", Talk.infers(x, "u"), -1000);
        Due.due("IT stays", Talk.type(x, IT), "I");
        Due.next("-1 - p: the sign at p can't stand there (its end, if it ends too early; a LABEL that was there among BRANCHES; "
                + "of ~ the same one again);");
        Asked.bad("", 0);
        String[] whole = {"\\x.x", "(\\x.x1)", "$x=1;x", "{A=1|{}}", "#A{A=1|{}}", "-A{A=1|{}}", "~AB{A=1|{}}", "&{}{}", "<A1>",
            "?<A1>[Ax.x;*y.2]"};
        for (String text : whole) {
            for (int n = 0; n < text.length(); n++) {
                Asked.bad(text.substring(0, n), n);
            }
            Asked.bad(text + "1", text.length());
            Asked.bad(text + ")", text.length());
        }
        Asked.bad("?<A1>[Ax.1;Bx.2;Ax.3]", 16);
        Asked.bad("~HH{}", 2);
        Due.due("IT stays", Talk.infers(x, "(1") == -3 && x.count(1) == 1, true);
        Due.next("a FAULT: as told.");
        Asked.fault("<A#B{A=1|{}}>", 3, 2, 1);
    }

    private static void defines() {
        Due.next("## Promise 5: defines `int defines()`: Likewise, but it is the next DEFINITION (IT stays): its number.");
        RowTypes x = Asked.it("<A1>");
        for (int k = 0; k < 8; k++) {
            Due.due("a sign", Talk.defines(x, "{A=1|}"), -6);
            Due.due("a fault", Talk.defines(x, "{A=1|1}"), -2000);
            Due.due("number " + k, Talk.defines(x, "\\x.{A=" + k + "|{}}"), k);
            Due.due("its type", Talk.type(x, k), "(a>{A:I})");
            Due.due("IT stays", Talk.type(x, IT), "<A:I|a>");
        }
        Due.next("-300: there are eight (asked behind the signs, ahead of FAULTS).");
        Due.due("a ninth", Talk.defines(x, "1"), -300);
        Due.due("a sign", Talk.defines(x, "{A=1|}"), -6);
        Due.due("a fault", Talk.defines(x, "{A=1|1}"), -300);
        Due.due("eight", x.count(0), 8);
    }

    private static void forgets() {
        Due.next("## Promise 6: forgets `int forgets(int k)`: DEFINITIONS from number k on go, and IT, if one of their NAMES is free "
                + "in it: how many DEFINITIONS.");
        RowTypes x = Asked.it("{A=q|{B=\\r.r|{C=$s=1;s|{}}}}", "1", "2", "3", "4");
        Due.due("two", x.forgets(2), 2);
        Due.due("left", x.count(0), 2);
        Due.due("IT stays: its r, its s are bound", x.count(1), 1);
        Due.due("one", x.forgets(1), 1);
        Due.due("IT goes by q", x.count(1), 0);
        Due.due("p stays", x.size(0), 1);
        Due.due("made again", Talk.defines(x, "{}"), 1);
        Due.due("used again", Talk.infers(x, "{A=p|q}"), 2);
        Due.next("NONE: k is below 0; no such one (k may be as many as there are: 0).");
        for (int k : new int[] {LEAST, -2, -1, 3, 4, 8, MOST}) {
            Due.due("forgets " + k, x.forgets(k), NONE);
        }
        Due.due("as many as there are", x.forgets(2), 0);
        Due.due("all there", x.count(0) + x.count(1), 3);
    }

    // ---- types

    private static void size() {
        Due.next("## Promise 7: size `int size(int w)`: SIZE of the TYPE of w; the ROW: how many variables, how many of these are "
                + "row variables.");
        String[] texts = {"1", "\\x.x", "\\x.\\y.x", "\\r.&r{}", "\\r.#Ar", "\\v.?v[Ax.x;*y.1]", "\\r.\\v.{A=#Br|{B=?v[*y.v]|{}}}"};
        int[] sizes = {1, 3, 5, 5, 5, 5, 11};
        String[] rows = {"0 0", "1 0", "2 0", "1 1", "2 1", "1 1", "3 2"};
        for (int i = 0; i < texts.length; i++) {
            RowTypes x = Asked.it(texts[i], texts[i]);
            Due.due("size of " + texts[i], x.size(0), sizes[i]);
            x.parts(IT);
            Due.due("size of " + texts[i], x.size(IT), sizes[i]);
            Due.due("the ROW of " + texts[i], Talk.row(x), rows[i]);
        }
        Due.next("NONE: none such.");
        RowTypes x = Asked.it("1");
        for (int w : new int[] {LEAST, -3, ANSWER, 0, 1, 8, MOST}) {
            Due.due("size " + w, x.size(w), NONE);
        }
    }

    private static void type() {
        Due.next("## Promise 8: type `int type(int w, int i)`: Sign i of the TYPE of w, WRITTEN; i NONE: how many signs.");
        RowTypes x = Asked.it("\\r.{A=1|r}", "\\v.?v[Ax.1;*y.2]");
        x.side(IT, 1);
        String[] due = {"{A:I|a}", "({|a}>{A:I|a})", "(<A:a|b>>I)"};
        for (int w = -2; w <= 0; w++) {
            Due.due("how many", x.type(w, NONE), due[w + 2].length());
            for (int i = 0; i < due[w + 2].length(); i++) {
                Due.due("sign " + i + " of " + w, x.type(w, i), due[w + 2].charAt(i));
            }
        }
        Due.next("NONE: none such.");
        for (int i : new int[] {LEAST, -3, -2, 14, 15, MOST}) {
            Due.due("sign " + i, x.type(IT, i), NONE);
        }
        for (int w : new int[] {LEAST, -3, 1, MOST}) {
            Due.due("none such", x.type(w, NONE), NONE);
            Due.due("none such", x.type(w, 0), NONE);
        }
    }

    private static void lacks() {
        Due.next("## Promise 9: lacks `int lacks(int w, int k)`: LACKS (bits) of variable k (0 .. : by the order in which they come) of "
                + "the TYPE of w. -2: it is no row variable;");
        RowTypes x = Asked.it("\\x.\\r.\\s.{C=x|{D=#Ar|{E=#Bs|-As}}}");
        Due.due("type", Talk.type(x, IT), "(a>({A:b|c}>({A:d,B:e|f}>{B:e,C:a,D:b,E:e|f})))");
        int[] due = {-2, -2, 1, -2, -2, 31};
        for (int k = 0; k < due.length; k++) {
            Due.due("variable " + k, x.lacks(IT, k), due[k]);
        }
        Due.next("NONE: none such.");
        for (int k : new int[] {LEAST, -2, -1, 6, 7, MOST}) {
            Due.due("variable " + k, x.lacks(IT, k), NONE);
        }
        for (int w : new int[] {LEAST, -3, ANSWER, 0, MOST}) {
            Due.due("lacks " + w, x.lacks(w, 0), NONE);
        }
    }

    private static void sort() {
        Due.next("## Promise 10: sort `int sort(int w)`: What the TYPE of w is, 0: I, 1: a function, 2: a record, 3: a variant, "
                + "4: a variable;");
        String[] texts = {"1", "\\x.x", "{A=1|{}}", "<A1>"};
        for (int sort = 0; sort < 4; sort++) {
            Due.due("sort of " + texts[sort], Asked.it(texts[sort]).sort(IT), sort);
            Due.due("sort of " + texts[sort], Asked.with(texts[sort]).sort(0), sort);
        }
        RowTypes x = Asked.it("\\x.x");
        x.side(IT, 0);
        Due.due("sort of a variable", x.sort(ANSWER), 4);
        Due.next("the ROW, of 2, 3: LABELS (bits), 1 if its END is a variable, else 0, LACKS of that (0 without); of others none.");
        x = Asked.it("\\r.\\v.{A=~CAr|{B=?v[Ax.1;Hx.1]|{C=?v[*y.v]|{D=1|{E=\\x.x|{}}}}}}", ALL, "<D1>", "{}");
        String[] rows = {"1 1 5", "", "129 0 0", "", ""};
        int[] sorts = {2, 0, 3, 0, 1};
        for (int label = 0; label < 5; label++) {
            x.side(IT, 1);
            x.side(ANSWER, 1);
            x.field(ANSWER, label);
            x.parts(IT);
            Due.due("sort of field " + label, x.sort(ANSWER), sorts[label]);
            Due.due("the ROW of field " + label, Talk.row(x), rows[label]);
        }
        String[] others = {"255 0 0", "8 1 8", "0 0 0"};
        for (int k = 0; k < 3; k++) {
            x.sort(k);
            Due.due("the ROW of definition " + k, Talk.row(x), others[k]);
        }
        Due.next("NONE: none such.");
        for (int w : new int[] {LEAST, -3, 3, MOST}) {
            Due.due("sort " + w, x.sort(w), NONE);
            Due.due("the ROW stays", Talk.row(x), "0 0 0");
        }
    }

    private static void needs() {
        Due.next("## Promise 11: needs `int needs(int w)`: If the TYPE of w is a function from a record: 0; from a variant: 1; the ROW: "
                + "as sort() of that record, variant.");
        RowTypes x = Asked.it("\\r.~BD#Ar", "\\v.?v[Ax.1;Hx.2;*y.3]", "\\v.?v[Ax.1;Hx.2]", "\\x.x", "{A=\\r.#Ar|{}}", "1");
        Due.due("a record", x.needs(IT), 0);
        Due.due("A", Talk.row(x), "1 1 1");
        Due.due("a variant", x.needs(0), 1);
        Due.due("A, H, others", Talk.row(x), "129 1 129");
        Due.due("a variant", x.needs(1), 1);
        Due.due("A, H", Talk.row(x), "129 0 0");
        x.side(IT, 0);
        x.sort(ANSWER);
        Due.due("as sort()", Talk.row(x), "1 1 1");
        Due.next("-2: it is no such one; NONE: none such.");
        for (int w = 2; w < 5; w++) {
            Due.due("needs " + w, x.needs(w), -2);
        }
        Due.due("a record itself", x.needs(ANSWER), -2);
        for (int w : new int[] {LEAST, -3, 5, MOST}) {
            Due.due("needs " + w, x.needs(w), NONE);
        }
        Due.due("the ROW stays", Talk.row(x), "1 1 1");
    }

    private static void field() {
        Due.next("## Promise 12: field `int field(int w, int label)`: THE ANSWER becomes the TYPE of the FIELD of a LABEL of the TYPE of "
                + "w, a record or a variant: SIZE.");
        RowTypes x = Asked.it("{A=1|{D={H=\\x.x|{}}|{}}}", "<H{}>", "\\r.#Ar");
        Due.due("A", x.field(IT, 0), 1);
        Due.due("A", Talk.type(x, ANSWER), "I");
        Due.due("D", x.field(IT, 3), 4);
        Due.due("D", Talk.type(x, ANSWER), "{H:(a>a)}");
        Due.due("H of THE ANSWER", x.field(ANSWER, 7), 3);
        Due.due("H of THE ANSWER", Talk.type(x, ANSWER), "(a>a)");
        Due.due("of a variant", x.field(0, 7), 1);
        Due.due("of a variant", Talk.type(x, ANSWER), "{}");
        Due.next("-2: it is none, or has none such; NONE: none such, no such LABEL.");
        Due.due("none such", x.field(IT, 1), -2);
        Due.due("none such", x.field(0, 0), -2);
        Due.due("a function", x.field(1, 0), -2);
        for (int label : new int[] {LEAST, -1, 8, MOST}) {
            Due.due("label " + label, x.field(IT, label), NONE);
            Due.due("label " + label, x.field(1, label), NONE);
        }
        Due.due("no w", x.field(2, 0), NONE);
        Due.due("no w", x.field(-3, 0), NONE);
        Due.due("THE ANSWER stays", Talk.type(x, ANSWER), "{}");
    }

    private static void side() {
        Due.next("## Promise 13: side `int side(int w, int which)`: THE ANSWER becomes what the TYPE of w, a function, is from (which 0) "
                + "or to (1): SIZE.");
        RowTypes x = Asked.it("\\f.\\x.{A=(fx)|{}}", "1", "{}");
        Due.due("from", x.side(IT, 0), 3);
        Due.due("from", Talk.type(x, ANSWER), "(a>b)");
        Due.due("to", x.side(IT, 1), 4);
        Due.due("to", Talk.type(x, ANSWER), "(a>{A:b})");
        Due.due("to what it is to", x.side(ANSWER, 1), 2);
        Due.due("to what it is to", Talk.type(x, ANSWER), "{A:a}");
        Due.next("-2: it is none; NONE: none such, another which.");
        Due.due("a record", x.side(ANSWER, 0), -2);
        Due.due("a number", x.side(0, 1), -2);
        for (int which : new int[] {LEAST, -1, 2, MOST}) {
            Due.due("which " + which, x.side(IT, which), NONE);
            Due.due("which " + which, x.side(0, which), NONE);
        }
        Due.due("no w", x.side(2, 0), NONE);
        Due.due("THE ANSWER stays", Talk.type(x, ANSWER), "{A:a}");
    }

    private static void closes() {
        Due.next("## Promise 14: closes `int closes(int w)`: THE ANSWER becomes the TYPE of w, all ENDS that are variables having become "
                + "nothing: SIZE.");
        RowTypes x = Asked.it("\\x.\\r.\\v.{A=x|{B=?v[Cy.1;*z.2]|-Cr}}", "1", "<A<B1>>");
        Due.due("type", Talk.type(x, IT), "(a>({C:b|c}>(<C:d|e>>{A:a,B:I|c})))");
        Due.due("closes", x.closes(IT), 11);
        Due.due("closed", Talk.type(x, ANSWER), "(a>({C:b}>(<C:c>>{A:a,B:I})))");
        Due.due("w stays", x.size(IT), 14);
        Due.due("again", x.closes(ANSWER), 11);
        Due.due("without ENDS", x.closes(0), 1);
        Due.due("within", x.closes(1), 3);
        Due.due("within", Talk.type(x, ANSWER), "<A:<B:I>>");
        Due.next("NONE: none such.");
        for (int w : new int[] {LEAST, -3, 2, MOST}) {
            Due.due("closes " + w, x.closes(w), NONE);
        }
        Due.due("THE ANSWER stays", Talk.type(x, ANSWER), "<A:<B:I>>");
    }

    private static void fits() {
        Due.next("## Promise 15: fits `int fits(int w)`: THE TEXT is a TYPE without variables (WRITTEN, but FIELDS in any order, each LABEL "
                + "once in a ROW):");
        RowTypes x = Asked.it(ALL);
        for (String order : new String[] {"ABCDEFGH", "HGFEDCBA", "BADCFEHG", "EFGHABCD"}) {
            Due.due("fields in the order " + order, Talk.fits(x, IT, "{" + order.replaceAll("(.)", "$1:I,").substring(0, 31) + "}"), 1);
        }
        Due.due("a label once more", Talk.fits(x, IT, "{A:I,B:I,A:I}"), -10);
        Due.due("a label in another row", Talk.fits(x, IT, "{A:{A:<A:I>}}"), 0);
        Due.next("1 if the TYPE of w, with new variables, and it can be UNIFIED, else 0.");
        x = Asked.it("\\r.{B=#Ar|-Ar}", "\\v.?v[Ax.x;*y.1]", "\\x.x");
        String[][] told = {{"({A:I}>{B:I})", "1"}, {"({C:I,A:{}}>{B:{},C:I})", "1"}, {"({A:I}>{B:{}})", "0"}, {"({}>{})", "0"},
            {"({A:I,B:I}>{B:I})", "0"}, {"({A:I}>{B:I,C:I})", "0"}, {"I", "0"}, {"{}", "0"}};
        for (String[] t : told) {
            Due.due("fits " + t[0], Talk.fits(x, IT, t[0]), Integer.parseInt(t[1]));
            Due.due("the type stays", Talk.type(x, IT), "({A:a|b}>{B:a|b})");
        }
        Due.due("a variant", Talk.fits(x, 0, "(<A:I,B:{}>>I)"), 1);
        Due.due("a variant", Talk.fits(x, 0, "(<B:{}>>I)"), 0);
        Due.due("again and again", Talk.fits(x, 1, "(I>I)") + Talk.fits(x, 1, "({}>{})") + Talk.fits(x, 1, "(I>{})"), 2);
        Due.next("-1 - p: the sign at p can't stand there;");
        String[] bad = {"", "a", "{a", "(I", "(I>", "(I>I", "I)", "{A", "{A:", "{A:I", "{A:I,", "{A:I,}", "{A:I>", "<A:I}", "{A=I}", "{A:I|}",
            "{A:I,A", "(I I)", "1", "{I:I}", "J"};
        int[] places = {0, 0, 1, 2, 3, 4, 1, 2, 3, 4, 5, 5, 4, 4, 2, 4, 5, 2, 0, 1, 0};
        for (int i = 0; i < bad.length; i++) {
            Due.due("fits " + bad[i], Talk.fits(x, IT, bad[i]), -1 - places[i]);
            Due.due("THE TEXT", x.count(4), 0);
        }
        Due.next("NONE: none such w (THE TEXT is empty then, too).");
        Talk.tell(x, "(I>I)");
        Due.due("none such", x.fits(2), NONE);
        Due.due("THE TEXT", x.count(4), 0);
    }

    private static void above() {
        Due.next("## Promise 16: above `int above(int a, int b)`: Whether the TYPE of a is as general as that of b: with TYPES for its "
                + "variables and ROWS for its ENDS (that have no LABELS they LACK, and whose ENDS LACK these, too) it is that of b: "
                + "1, else 0; the ROW: 1 if that of b is as general as that of a, else 0.");
        String[] chain = {"\\x.1", "\\r.$y=&r{};1", "\\r.$y={C=1|r};1", "\\r.$y={C=1|r};#Ar", "\\r.$y={C=1|r};$y=#Br;(\\x.1#Ar)",
            "\\r.(\\y.1?<Ar>[Ax.x;Bx.{A=1|{B={}|{}}}])"};
        // (a>I), ({|a}>I) of no LACKS, ({|a}>I) that LACKS C, ({A:a|b}>a), ({A:a,B:b|c}>I), ({A:I,B:{}}>I)
        int[][] due = {{1, 1, 1, 0, 1, 1}, {0, 1, 1, 0, 1, 1}, {0, 0, 1, 0, 1, 1}, {0, 0, 0, 1, 0, 1}, {0, 0, 0, 0, 1, 1}, {0, 0, 0, 0, 0, 1}};
        RowTypes x = Asked.with(chain);
        for (int a = 0; a < chain.length; a++) {
            for (int b = 0; b < chain.length; b++) {
                Due.due(chain[a] + " above " + chain[b], x.above(a, b), due[a][b]);
                Due.due("the ROW: " + chain[b] + " above " + chain[a], Talk.row(x), String.valueOf(due[b][a]));
            }
        }
        Due.next("NONE: no such ones.");
        x.size(0);
        for (int w : new int[] {LEAST, -3, ANSWER, IT, 6, MOST}) {
            Due.due("above " + w, x.above(w, 0), NONE);
            Due.due("above " + w, x.above(0, w), NONE);
            Due.due("the ROW stays", Talk.row(x), "1 0");
        }
    }

    private static void meets() {
        Due.next("## Promise 17: meets `int meets(int a, int b)`: TYPES of a and b, both with new variables, are UNIFIED (the first that of "
                + "a): THE ANSWER becomes that: SIZE.");
        RowTypes x = Asked.with("\\r.\\s.{A=#Br|{C=#Ds|{}}}", "\\r.\\s.{A=1|{C=#Cs|{}}}", "\\x.x", "\\x.{A=x|{}}");
        Due.due("SIZE", x.meets(0, 1), 12);
        Due.due("written", Talk.type(x, ANSWER), "({B:I|a}>({C:b,D:b|c}>{A:I,C:b}))");
        Due.due("LACKS B", x.lacks(ANSWER, 0), 2);
        Due.due("LACKS C, D", x.lacks(ANSWER, 2), 12);
        Due.due("the other way round", x.meets(1, 0), 12);
        Due.due("written", Talk.type(x, ANSWER), "({B:I|a}>({C:b,D:b|c}>{A:I,C:b}))");
        Due.due("a function of one variable", x.meets(2, 2), 3);
        Due.due("both with new variables", x.meets(3, 3), 4);
        Due.due("written", Talk.type(x, ANSWER), "(a>{A:a})");
        Due.due("THE ANSWER with another one", x.side(3, 0) + x.meets(ANSWER, 3), 5);
        Due.due("a and b stay", Talk.type(x, 3), "(a>{A:a})");
        Due.next("A FAULT (7, too); NONE: no such ones.");
        x = Asked.with("\\x.x", "\\x.{A=x|{}}", "1", "{}", "{C=1|{}}", "\\r.{C=1|r}", "\\r.#Cr");
        int[][] faults = {{0, 1, -5000, -1}, {1, 0, -5000, -1}, {2, 3, -2000, -1}, {3, 4, -3000, 2}, {4, 3, -3000, 2}, {5, 6, -4000, 2}};
        for (int[] f : faults) {
            x.parts(0);
            Due.due("meets " + f[0] + " " + f[1], x.meets(f[0], f[1]), f[2]);
            Due.due("the ROW", Talk.row(x), String.valueOf(f[3]));
        }
        for (int w : new int[] {LEAST, -3, ANSWER, IT, 7, MOST}) {
            Due.due("meets " + w, x.meets(w, 0), NONE);
            Due.due("meets " + w, x.meets(0, w), NONE);
        }
        Due.due("no ANSWER", x.count(2), 0);
        String nine = "\\a.".repeat(9) + "1";
        x = Asked.with("\\y.{A=" + nine + "|{B=y|{C=1|{D=1|{}}}}}", "\\y.{A=y|{B=" + nine + "|{C=1|{D=1|{}}}}}");
        Due.due("7", x.meets(0, 1), -7000);
        Due.due("the ROW", Talk.row(x), "-1");
    }

    private static void applies() {
        Due.next("## Promise 18: applies `int applies(int a, int b)`: THE ANSWER becomes the TYPE of ( a b ), were they EXPRESSIONS of "
                + "their TYPES, with new variables: SIZE.");
        String[] ones = {"\\r.{H=#Ar|-Ar}", "{A=\\x.x|{C=1|{}}}", "\\x.x", "\\f.\\x.(f(fx))", "1", "\\v.?v[Ax.{B=x|{}}]", "<A1>", "<B1>"};
        RowTypes x = Asked.with(ones);
        for (int a = 0; a < ones.length; a++) {
            for (int b = 0; b < ones.length; b++) {
                String names = "pqrstuvw";
                int due = Talk.infers(x, "(" + names.charAt(a) + names.charAt(b) + ")");
                String row = due < 0 ? Talk.row(x) : "";
                x.parts(0);
                Due.due("applies " + a + " " + b, x.applies(a, b), due);
                Due.due("type or ROW", due < 0 ? Talk.row(x) : Talk.type(x, ANSWER), due < 0 ? row : Talk.type(x, IT));
            }
        }
        Due.due("(p q)", x.applies(0, 1), 5);
        Due.due("(p q)", Talk.type(x, ANSWER), "{C:I,H:(a>a)}");
        Due.next("A FAULT; NONE: no such ones.");
        Due.due("no function", x.applies(1, 0), -2000);
        Due.due("MISSING A", x.applies(0, 4), -2000);
        Due.due("MISSING B", x.applies(5, 7), -3000);
        Due.due("the ROW", Talk.row(x), "1");
        for (int w : new int[] {LEAST, -3, 8, MOST}) {
            Due.due("applies " + w, x.applies(w, 0), NONE);
            Due.due("applies " + w, x.applies(0, w), NONE);
        }
        Due.due("THE ANSWER stays", Talk.type(x, ANSWER), "{C:I,H:(a>a)}");
    }

    private static void part() {
        Due.next("## Promise 19: part `int part(int w, int place)`: THE ANSWER becomes the TYPE that the EXPRESSION of which the first sign "
                + "is at a PLACE of the text of w (IT, a DEFINITION) has in the end: SIZE.");
        String text = "(\\r.{B=#Ar|-Ar}{A=1|{C={}|{}}})";
        String[] due = {"{B:I,C:{}}", "({A:I,C:{}}>{B:I,C:{}})", null, null, "{B:I,C:{}}", null, null, "I", null, "{A:I,C:{}}", null, "{C:{}}",
            null, "{A:I,C:{}}", null, "{A:I,C:{}}", null, null, "I", null, "{C:{}}", null, null, "{}", null, null, "{}"};
        RowTypes x = Asked.it(text, "$i=\\x.x;{A=(i1)|{B=(i{})|{}}}");
        for (int place = 0; place < due.length; place++) {
            int answer = x.part(IT, place);
            Due.due("part " + place, answer == -2, due[place] == null);
            if (due[place] != null) {
                Due.due("part " + place, Talk.type(x, ANSWER), due[place]);
                Due.due("SIZE", x.size(ANSWER), answer);
            }
        }
        Due.due("a definition's $", x.part(0, 3), 3);
        Due.due("a definition's $", Talk.type(x, ANSWER), "(a>a)");
        Due.due("a definition's i", x.part(0, 12), 3);
        Due.due("a definition's i", Talk.type(x, ANSWER), "(I>I)");
        Due.next("-7000: that is above 60 (no FAULT: the ROW stays);");
        RowTypes y = Asked.with("\\x.{A=x|{B=x|{C=x|{D=x|{E=x|{F=x|{G=x|{H=x|{}}}}}}}}}", "\\x.\\y.\\f.{A=(fx)|{B=(fy)|{}}}", "\\x.\\y.1");
        text = "?<A1>[Ax.1;Bb.?<A1>[Ay.1;Be.((r((qb)(pe)))((qe)(p1)))]]";
        Due.due("infers", Talk.infers(y, text), 1);
        y.free(0);
        y.closes(IT);
        Due.due("b", y.part(IT, text.indexOf("b)")), -7000);
        Due.due("the ROW stays", Talk.row(y), "10");
        Due.due("THE ANSWER stays", Talk.type(y, ANSWER), "I");
        Due.due("e", y.part(IT, text.indexOf("e)")), 9);
        Due.next("-2: none begins there; NONE: none such w.");
        for (int place : new int[] {LEAST, -1, 2, 31, 32, 100, MOST}) {
            Due.due("part " + place, x.part(IT, place), -2);
            Due.due("none such", x.part(1, place), NONE);
            Due.due("THE ANSWER has no text", x.part(ANSWER, place), NONE);
        }
    }

    // ---- values

    private static void steps() {
        Due.next("## Promise 20: steps `int steps(int w)`: STEPS in which w (IT, a DEFINITION) is worked out; the ROW: the sort of its VALUE "
                + "(0 .. 3 as sort()), the number (of a record LABELS as bits, of a variant its LABEL, of a function NONE).");
        RowTypes x = Asked.it("(p{A=4|{}})", "\\r.#Ar", "{H=1|{A=2|{}}}", "?<A1>[Ax.<Gx>]", "{}");
        int[] steps = {8, 1, 5, 5, 1};
        String[] rows = {"0 4", "1 -1", "2 129", "3 6", "2 0"};
        for (int w = -1; w < 4; w++) {
            Due.due("steps " + w, x.steps(w), steps[w + 1]);
            Due.due("the ROW", Talk.row(x), rows[w + 1]);
        }
        Due.next("-2: more than 500; NONE: none such.");
        x = Asked.it(LONG, TWICE, "\\x.x");
        x.size(0);
        Due.due("more than 500", x.steps(IT), -2);
        Due.due("the ROW stays", Talk.row(x), "1 0");
        for (int w : new int[] {LEAST, -3, ANSWER, 2, MOST}) {
            Due.due("steps " + w, x.steps(w), NONE);
        }
        fiveHundred();
        // q twice, four times, sixteen times: its one step, then twice as many and five more each time.
        String[] texts = {"((pq)1)", "(((pp)q)1)", "((((pp)p)q)1)"};
        int[] due = {8 + 7, 18 + 19, 40 + 91};
        for (int i = 0; i < texts.length; i++) {
            Talk.infers(x, texts[i]);
            Due.due("steps of " + texts[i], x.steps(IT), due[i]);
        }
    }

    /** 498 steps, and two, three, four more. */
    private static void fiveHundred() {
        RowTypes x = Asked.with("{A=1|{B=1|{C=1|{D=1|{E=1|{F=1|{G=1|{}}}}}}}}", "#Ap",
                "{A=q|{B=q|{C=q|{D=q|{E=q|{F=q|{G=q|{}}}}}}}}", "{A=#Ar|{B=#Ar|{C=#Ar|{}}}}");
        int[] steps = {15, 17, 134, 412};
        for (int k = 0; k < 4; k++) {
            Due.due("steps of definition " + k, x.steps(k), steps[k]);
        }
        String[] last = {"<A1>", "<A<A1>>", "<A<A<A1>>>"};
        for (int i = 0; i < 3; i++) {
            Talk.infers(x, "{A=s|{B=q|{C=q|{D=q|{E=p|{F=1|{G=(\\x.x1)|{H=" + last[i] + "|{}}}}}}}}}");
            Due.due("steps with " + last[i], x.steps(IT), i < 2 ? 499 + i : -2);
            Due.due("value with " + last[i], x.value(IT, 0), i < 2 ? '{' : -2);
            Due.due("taken with " + last[i], x.taken(IT, 7), i < 2 ? 3 : -2);
        }
    }

    private static void value() {
        Due.next("## Promise 21: value `int value(int w, int i)`: Sign i of the VALUE of w, WRITTEN; i NONE: how many signs.");
        RowTypes x = Asked.it("{C=p|{A=<B\\x.x>|{}}}", "{H=1|{G={}|{}}}");
        String[] due = {"{A=<B\\>,C={G={},H=1}}", "{G={},H=1}"};
        for (int w = -1; w < 1; w++) {
            Due.due("how many", x.value(w, NONE), due[w + 1].length());
            for (int i = 0; i < due[w + 1].length(); i++) {
                Due.due("sign " + i, x.value(w, i), due[w + 1].charAt(i));
            }
        }
        x = Asked.it("(s".repeat(22) + "0" + ")".repeat(22), ValuesTest.DOUBLING);
        Due.due("a long one", x.value(IT, NONE), 12 * (1 << 22) - 11);
        Due.due("its first sign", x.value(IT, 0), '{');
        Due.due("its last sign", x.value(IT, 12 * (1 << 22) - 12), '}');
        Due.due("behind it", x.value(IT, 12 * (1 << 22) - 11), NONE);
        Due.next("-2: more than 500 STEPS; NONE: none such.");
        x = Asked.it(LONG, TWICE, "1");
        Due.due("how many", x.value(IT, NONE), -2);
        Due.due("sign 0", x.value(IT, 0), -2);
        Due.due("sign 0 of another one", x.value(1, 0), '1');
        for (int i : new int[] {LEAST, -2, 1, MOST}) {
            Due.due("sign " + i, x.value(1, i), NONE);
        }
        for (int w : new int[] {LEAST, -3, ANSWER, 2, MOST}) {
            Due.due("none such", x.value(w, NONE), NONE);
            Due.due("none such", x.value(w, 0), NONE);
        }
    }

    private static void taken() {
        Due.next("## Promise 22: taken `int taken(int w, int label)`: The VALUE of a FIELD of a LABEL of w's VALUE, a record, or of a variant "
                + "of that LABEL: its sort; the ROW: one number, the second one that steps() would tell of it.");
        RowTypes x = Asked.it("{A=7|{C=\\x.x|{E={B=1|{H=1|{}}}|{H=<F1>|{}}}}}", "<E{D=1|{}}>", "3");
        int[] sorts = {0, -3, 1, -3, 2, -3, -3, 3};
        String[] rows = {"7", "", "-1", "", "130", "", "", "5"};
        for (int label = 0; label < 8; label++) {
            x.sort(IT);
            Due.due("taken " + label, x.taken(IT, label), sorts[label]);
            Due.due("the ROW", Talk.row(x), sorts[label] < 0 ? "149 0 0" : rows[label]);
        }
        Due.due("of a variant", x.taken(0, 4), 2);
        Due.due("of a variant", Talk.row(x), "8");
        Due.next("-2: more than 500 STEPS; -3: it is none, or has none such; NONE: none such, no such LABEL.");
        Due.due("another label", x.taken(0, 3), -3);
        Due.due("a number", x.taken(1, 0), -3);
        for (int label : new int[] {LEAST, -1, 8, MOST}) {
            Due.due("label " + label, x.taken(IT, label), NONE);
        }
        for (int w : new int[] {LEAST, -3, ANSWER, 2, MOST}) {
            Due.due("none such", x.taken(w, 0), NONE);
        }
        x = Asked.it(LONG, TWICE);
        Due.due("more than 500", x.taken(IT, 0), -2);
        Due.due("no label", x.taken(IT, 8), NONE);
    }

    // ---- texts of expressions

    private static void parts() {
        Due.next("## Promise 23: parts `int parts(int w)`: EXPRESSIONS in w (IT, a DEFINITION), it, too; the ROW: how many are numbers, NAMES, "
                + "functions, ( E E ), $, {}, { LABEL = E | E }, # or - or ~, &, variants, ?.");
        RowTypes x = Asked.it("(p#A-B~CB{C=1|{A=2|&{}{}}})", "\\x.x");
        Due.due("parts", x.parts(IT), 12);
        Due.due("the ROW", Talk.row(x), "2 1 0 1 0 2 2 3 1 0 0");
        Due.due("infers", Talk.infers(x, "$f=\\x.<Ax>;?(f{})[Ay.y;Bz.z;*o.{}]"), 1);
        Due.due("parts", x.parts(IT), 11);
        Due.due("the ROW", Talk.row(x), "0 4 1 1 1 2 0 0 0 1 1");
        Due.due("a definition", x.parts(0), 2);
        Due.due("the ROW", Talk.row(x), "0 1 1 0 0 0 0 0 0 0 0");
        Due.next("NONE: none such.");
        for (int w : new int[] {LEAST, -3, ANSWER, 1, MOST}) {
            Due.due("parts " + w, x.parts(w), NONE);
        }
        Due.due("the ROW stays", Talk.row(x), "0 1 1 0 0 0 0 0 0 0 0");
    }

    private static void often() {
        Due.next("## Promise 24: often `int often(int w, int label)`: How often a LABEL stands in the text of w; the ROW: how often in "
                + "{ LABEL = E | E }, behind # - ~ (of ~ both), in < >, in BRANCHES.");
        RowTypes x = Asked.it("{A=?<B1>[Ax.2;Bx.#A~CB-B{A=3|{B=4|{C=5|{}}}}]|{C=<C5>|{}}}", "<A1>");
        int[] due = {4, 5, 4, 0, 0, 0, 0, 0};
        String[] rows = {"2 1 0 1", "1 2 1 1", "2 1 1 0", "0 0 0 0", "0 0 0 0", "0 0 0 0", "0 0 0 0", "0 0 0 0"};
        for (int label = 0; label < 8; label++) {
            Due.due("often " + label, x.often(IT, label), due[label]);
            Due.due("the ROW", Talk.row(x), rows[label]);
        }
        Due.due("a definition", x.often(0, 0), 1);
        Due.due("the ROW", Talk.row(x), "0 0 1 0");
        Due.next("NONE: none such, no such LABEL.");
        for (int w : new int[] {LEAST, -3, ANSWER, 1, MOST}) {
            Due.due("often " + w, x.often(w, 0), NONE);
        }
        for (int label : new int[] {LEAST, -1, 8, MOST}) {
            Due.due("label " + label, x.often(IT, label), NONE);
        }
        Due.due("the ROW stays", Talk.row(x), "0 0 1 0");
    }

    private static void free() {
        Due.next("## Promise 25: free `int free(int w)`: NAMES in w that are not bound in it (bits, a the lowest); the ROW: how deep EXPRESSIONS "
                + "are within one another at most (one alone: 1).");
        RowTypes x = Asked.it("{A=\\p.(pq)|{B=$r=r;r|{C=?<As>[As.s;*t.u]|{}}}}", "1", "1", "1", "1", "1", "1");
        Due.due("q, r, s, u", x.free(IT), 1 << 16 | 1 << 17 | 1 << 18 | 1 << 20);
        Due.due("{ { { ? < s", Talk.row(x), "6");
        Due.due("infers", Talk.infers(x, "?<A1>[Av.#A{A=v|{}};*w.2]"), 1);
        Due.due("none", x.free(IT), 0);
        Due.due("? # { v", Talk.row(x), "4");
        Due.due("none", x.free(0), 0);
        Due.due("one alone", Talk.row(x), "1");
        Due.next("NONE: none such.");
        for (int w : new int[] {LEAST, -3, ANSWER, 6, MOST}) {
            Due.due("free " + w, x.free(w), NONE);
        }
        Due.due("the ROW stays", Talk.row(x), "1");
    }

    private static void count() {
        Due.next("## Promise 26: count `int count(int what)`: What 0: DEFINITIONS, 1: 1 if there is IT, else 0, 2: 1 if there is THE ANSWER, "
                + "else 0, 3: numbers of the ROW, 4: signs of THE TEXT.");
        RowTypes x = new RowTypes();
        counts(x, 0, 0, 0, 0, 0);
        x.sign(0x5C782E78);
        counts(x, 0, 0, 0, 0, 4);
        x.defines();
        counts(x, 1, 0, 0, 0, 0);
        x.sort(0);
        counts(x, 1, 0, 0, 0, 0);
        x.parts(0);
        counts(x, 1, 0, 0, 11, 0);
        x.side(0, 1);
        counts(x, 1, 0, 1, 11, 0);
        x.sign(0x70313131);
        x.end(1);
        counts(x, 1, 0, 1, 11, 1);
        x.infers();
        counts(x, 1, 1, 1, 11, 0);
        x.size(ANSWER);
        counts(x, 1, 1, 1, 2, 0);
        x.forgets(0);
        counts(x, 0, 0, 1, 2, 0);
        Due.next("NONE for another what.");
        for (int what : new int[] {LEAST, -2, -1, 5, 6, MOST}) {
            Due.due("count " + what, x.count(what), NONE);
        }
    }

    private static void counts(RowTypes x, int... due) {
        for (int what = 0; what < 5; what++) {
            Due.due("count " + what, x.count(what), due[what]);
        }
    }

    private static void row() {
        Due.next("## Promise 27: row `long row(int i) throws NoSuchElementException`: Number i of the ROW.");
        RowTypes x = Asked.it("{A=1|{B=\\x.x|{}}}");
        x.parts(IT);
        long[] due = {1, 1, 1, 0, 0, 1, 2, 0, 0, 0, 0};
        for (int i = 0; i < due.length; i++) {
            Due.due("number " + i, x.row(i), due[i]);
        }
        Due.next("NoSuchElementException: none such.");
        for (int i : new int[] {LEAST, -2, -1, 11, 12, MOST}) {
            Due.due("number " + i, Asked.noSuch(x, i), true);
        }
        x.taken(IT, 1);
        Due.due("number 0", x.row(0), -1);
        Due.due("number 1", Asked.noSuch(x, 1), true);
        Due.due("none yet", Asked.noSuch(new RowTypes(), 0), true);
    }
}
