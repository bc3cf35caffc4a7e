/** Values that have other fields than their types, and values that are very long. */
public final class ValuesTest {
    private static final int IT = RowTypes.NONE;
    private static final int NONE = RowTypes.NONE;
    private static final int MOST = Integer.MAX_VALUE;

    public static void main(String[] args) {
        leftOut();
        renamed();
        named();
        notTaken();
        ofAnotherSort();
        manySteps();
        namesOfDefinitions();
        longOnes();
        longVariants();
        longerThanAnInt();
        Due.end();
    }

    private static RowTypes with(String... definitions) {
        RowTypes x = new RowTypes();
        for (String s : definitions) {
            Due.due("defines " + s, Talk.defines(x, s) >= 0, true);
        }
        return x;
    }

    private static RowTypes lying(String text) {
        RowTypes x = with(Maker.LIARS);
        Due.due("infers " + text, Talk.infers(x, text) > 0, true);
        return x;
    }

    /** A record in two words: its steps, its ROW by steps(), its signs, and each field by taken(). */
    private static void record(String text, int steps, String written) {
        RowTypes x = lying(text);
        int labels = 0;
        for (int i = 0; i < written.length(); i++) {
            char c = written.charAt(i);
            labels |= c >= 'A' && c <= 'H' ? 1 << (c - 'A') : 0;
        }
        Due.due("steps of " + text, x.steps(IT), steps);
        Due.due("the ROW of " + text, Talk.row(x), "2 " + labels);
        Due.due("the value of " + text, Talk.value(x, IT), written);
        Due.due("how many signs", x.value(IT, NONE), written.length());
        Due.due("behind", x.value(IT, written.length()), NONE);
        for (int label = 0; label < 8; label++) {
            int at = written.indexOf('A' + label);
            Due.due("taken " + label + " of " + text, x.taken(IT, label), at < 0 ? -3 : 0);
            if (at >= 0) {
                Due.due("the ROW", Talk.row(x), written.substring(at + 2, at + 3));
            }
        }
    }

    // (r E): it, r, its \, E, then (: it, (q #De): it, q, its \, #, e, then \y, then - and e, then ?, <, y, z.
    private static final int OF_R = 3 + 6 + 1 + 2 + 4;
    // $, its record; (t E): it, t, its \, E, then $, \w, -, (s e): it, s, its \, e, then $, \w, x.
    private static final int OF_HIDES = 6 + 3 + 3 + 3 + 4 + 3;

    private static void leftOut() {
        Due.says(0, "- LABEL E: the record without that FIELD;");
        Due.says(0, "of others: it, then those in it from the left");
        String claims = "(r{D={A=0|{}}|{}})";
        record(claims, 5 + OF_R, "{}");
        record("-A" + claims, 6 + OF_R, "{}");
        record("{B=1|-A" + claims + "}", 8 + OF_R, "{B=1}");
        record("{A=1|-A" + claims + "}", 8 + OF_R, "{A=1}");
        record("-B-A(r{D={A=0|{B=0|{}}}|{}})", 9 + OF_R, "{}");
        String half = "(r{D={A=0|{B=1|{}}}|{B=2|{}}})";
        record(half, 9 + OF_R, "{B=2}");
        record("-A" + half, 10 + OF_R, "{B=2}");
        record("-B" + half, 10 + OF_R, "{}");
        record("-A-B" + half, 11 + OF_R, "{}");
        record("-B-A" + half, 11 + OF_R, "{}");
        // A definition, too.
        RowTypes x = with(Maker.LIARS);
        Due.due("defines", Talk.defines(x, "-A" + half), 5);
        Due.due("steps of a definition", x.steps(5), 10 + OF_R);
        Due.due("its value", Talk.value(x, 5), "{B=2}");
        Due.due("taken from it", x.taken(5, 0), -3);
        Due.due("taken from it", x.taken(5, 1), 0);
        // The value of a definition that is worked out within IT.
        Due.due("infers", Talk.infers(x, "-Bu") > 0, true);
        Due.due("steps of it within IT", x.steps(IT), 2 + 10 + OF_R);
        Due.due("its value", Talk.value(x, IT), "{}");
    }

    private static void renamed() {
        Due.says(0, "~ LABEL LABEL E: the record, the FIELD of the first one now by the other one (unlike ones);");
        String claims = "(r{D={A=0|{}}|{}})";
        record("~AB" + claims, 6 + OF_R, "{}");
        record("~AH" + claims, 6 + OF_R, "{}");
        record("~BC~AB" + claims, 7 + OF_R, "{}");
        record("-B~AB" + claims, 7 + OF_R, "{}");
        String half = "(r{D={A=0|{B=1|{}}}|{B=2|{}}})";
        record("~AC" + half, 10 + OF_R, "{B=2}");
        record("~BC" + half, 10 + OF_R, "{C=2}");
        record("~AB~BC" + half, 11 + OF_R, "{C=2}");
        // By its type there is A and no B, as a value there is B and no A: nothing goes by B, which stays.
        String hides = "$x={A=3|{B=4|{}}};(t{D=x|x})";
        String other = "(r{D={A=1|{}}|-A(r{D={A=1|{}}|" + hides + "})})";
        record(other, 2 * (OF_R + 4) + 1 + OF_HIDES, "{B=4}");
        record("~AB" + other, 2 * (OF_R + 4) + 2 + OF_HIDES, "{B=4}");
    }

    /** A field that is there but not in the type: both are told as they are. */
    private static void named() {
        Due.says(0, "{ LABEL = E | E }: the record that is the second one and that FIELD;");
        String hides = "$x={A=3|{B=4|{}}};(t{D=x|x})";
        RowTypes x = lying(hides);
        Due.due("its type", Talk.type(x, IT), "{}");
        record(hides, OF_HIDES, "{A=3,B=4}");
        record("{C=5|" + hides + "}", 2 + OF_HIDES, "{A=3,B=4,C=5}");
        record("{A=5|" + hides + "}", 2 + OF_HIDES, "{A=5,B=4}");
        record("-A{A=5|" + hides + "}", 3 + OF_HIDES, "{B=4}");
        record("&{C=5|{}}" + hides, 4 + OF_HIDES, "{A=3,B=4,C=5}");
    }

    private static void notTaken() {
        Due.says(20, "STEPS in which w (IT, a DEFINITION) is worked out;");
        String claims = "(r{D={A=0|{}}|{}})";
        RowTypes x = lying("#A" + claims);
        x.size(0);
        Due.due("a field that is not there", x.steps(IT), 6 + OF_R);
        Due.due("the ROW", Talk.row(x), "-1 -1");
        Due.due("no signs", x.value(IT, NONE), NONE);
        Due.due("no signs", x.value(IT, 0), NONE);
        Due.due("no fields", x.taken(IT, 0), -3);
        record("$y=#A" + claims + ";{B=1|{}}", 7 + 3 + OF_R, "{B=1}");
        record("(\\y.{B=1|{}}#A" + claims + ")", 8 + 3 + OF_R, "{B=1}");
        record("-C{C=#A" + claims + "|{B=1|{}}}", 8 + 3 + OF_R, "{B=1}");
        record("{C=5|{B=#B{A=#A" + claims + "|{B=1|{}}}|{}}}", 9 + 6 + OF_R, "{B=1,C=5}");
        x = lying("{C=5|{B=#A" + claims + "|{}}}");
        Due.due("a field that can't be told", x.steps(IT), 10 + OF_R);
        Due.due("the ROW", Talk.row(x), "2 6");
        Due.due("taken", x.taken(IT, 1), -3);
        Due.due("taken", x.taken(IT, 2), 0);
        Due.due("no signs", x.value(IT, NONE), NONE);
        Due.due("no signs", x.value(IT, 0), NONE);
        x = lying("<B#A" + claims + ">");
        Due.due("a variant of what can't be told", x.steps(IT), 7 + OF_R);
        Due.due("the ROW", Talk.row(x), "3 1");
        Due.due("taken", x.taken(IT, 1), -3);
        Due.due("no signs", x.value(IT, NONE), NONE);
        x = lying("\\y.#A" + claims);
        Due.due("a function is not worked out", x.steps(IT), 1);
        Due.due("its sign", Talk.value(x, IT), "\\");
    }

    /** What is used as a function, a record, a variant, and is none. */
    private static void ofAnotherSort() {
        String hides = "$x={A=3|{B=4|{}}};(t{D=x|x})";
        String taken = "#A&{A=!|{}}" + hides;
        String[] texts = {"(! 5)", "-B!", "~BC!", "#B!", "{C=5|!}", "&!{C=5|{}}", "&{C=5|{}}!", "?![Ax.1]", "?![*x.1]"};
        String[] of = {"\\z.z", "{B=1|{}}", "{B=1|{}}", "{B=1|{}}", "{}", "{}", "{}", "<A1>", "<A1>"};
        int[] more = {2, 1, 1, 1, 2, 4, 4, 1, 1};
        for (int i = 0; i < texts.length; i++) {
            String inner = taken.replace("!", of[i]);
            RowTypes x = lying(inner);
            int steps = x.steps(IT);
            Due.due("the second record's field", Talk.value(x, IT), "3");
            String text = texts[i].replace(" ", "").replace("!", inner);
            x = lying(text);
            Due.due("steps of " + text, x.steps(IT), steps + more[i]);
            Due.due("the ROW of " + text, Talk.row(x), "-1 -1");
            Due.due("signs of " + text, x.value(IT, NONE), NONE);
            Due.due("taken of " + text, x.taken(IT, 0), -3);
            x = lying("{E=5|{C=" + text + "|{F=6|{}}}}");
            Due.due("steps of a record with " + text, x.steps(IT), steps + more[i] + 6);
            Due.due("the ROW of a record with " + text, Talk.row(x), "2 52");
            Due.due("signs of it", x.value(IT, NONE), NONE);
            Due.due("taken of it", x.taken(IT, 2), -3);
            Due.due("taken of it", x.taken(IT, 4), 0);
            Due.due("taken of it", x.taken(IT, 5), 0);
        }
    }

    private static void manySteps() {
        Due.says(20, "-2: more than 500; NONE: none such.");
        RowTypes x = with(Maker.LIARS);
        Talk.defines(x, "#A(r{D={A=0|{}}|{}})");
        Talk.defines(x, "{A=u|{B=u|{C=u|{D=u|{E=u|{F=u|{}}}}}}}");
        int one = 6 + OF_R, six = 6 * (one + 2) + 1;
        Due.due("one", x.steps(5), one);
        Due.due("six", x.steps(6), six);
        Due.due("infers", Talk.infers(x, "$a=v;$a=v;$a=v;-H{H=1|{}}") > 0, true);
        Due.due("three times six", x.steps(IT), 3 * (six + 2) + 4);
        Due.due("infers", Talk.infers(x, "$a=v;$a=v;$a=v;$a=u;$a=u;$a=u;1") > 0, true);
        Due.due("more than 500", x.steps(IT), 3 * (six + 2) + 3 * (one + 2) + 1 > 500 ? -2 : 0);
        Due.due("more than 500", x.value(IT, 0), -2);
        Due.due("more than 500", x.taken(IT, 0), -2);
    }

    /** What a name is bound to in one part is not known in another one, nor in a definition. */
    private static void namesOfDefinitions() {
        Due.says(0, "(the innermost one that binds it; these behind all)");
        String[][] pairs = {{"{A=(\\p.p1)|{B=p|{}}}", "{A=1,B=7}"}, {"{A=$p=1;p|{B=p|{}}}", "{A=1,B=7}"},
            {"{A=?<A1>[Ap.p]|{B=p|{}}}", "{A=1,B=7}"}, {"(\\p.q1)", "<A7>"}, {"$p=1;q", "<A7>"}, {"$p=p;{A=p|{B=q|{}}}", "{A=7,B=<A7>}"},
            {"$p=1;$f=\\x.p;$p=2;{A=(f0)|{B=p|{}}}", "{A=1,B=2}"}, {"((\\p.\\x.p1)2)", "1"}, {"(\\p.((\\p.\\x.p1)p)2)", "1"}};
        for (String[] pair : pairs) {
            RowTypes x = with("7", "<Ap>");
            Due.due("infers " + pair[0], Talk.infers(x, pair[0]) > 0, true);
            Due.due("the value of " + pair[0], Talk.value(x, IT), pair[1]);
        }
    }

    // ---- long values

    static final String[] DOUBLING = {"\\x.\\y.?<Ax>[Az.z;Bz.y]", "\\x.$u=\\w.((px){B={A=w|{}}|{}});x",
        "\\e.$u=\\w.((p#Be)-Be);(qe)", "\\v.(r{A=v|{B={A=v|{}}|{}}})"};

    private static long doubled(int n) {
        return 12 * (1L << n) - 11;
    }

    /** Sign i of {A=V,B={A=V}}, V being the same once less often; 0 at last. */
    private static char doubledSign(int n, long i) {
        if (n == 0) {
            return '0';
        }
        long inner = doubled(n - 1);
        if (i >= 3 && i < 3 + inner) {
            return doubledSign(n - 1, i - 3);
        }
        if (i >= inner + 9 && i < 2 * inner + 9) {
            return doubledSign(n - 1, i - inner - 9);
        }
        return ("{A=" + ",B={A=" + "}}").charAt((int) (i < 3 ? i : i < inner + 9 ? i - inner : i - 2 * inner));
    }

    private static void longOnes() {
        Due.says(21, "Sign i of the VALUE of w, WRITTEN; i NONE: how many signs.");
        RowTypes x = with(DOUBLING);
        for (int n = 0; n <= 22; n++) {
            Due.due("infers", Talk.infers(x, "(s".repeat(n) + "0" + ")".repeat(n)) > 0, true);
            long all = doubled(n);
            Due.due("steps of " + n, x.steps(IT), 22 * n + 1);
            Due.due("signs of " + n, x.value(IT, NONE), all);
            Due.due("behind the last one of " + n, x.value(IT, (int) all), NONE);
            Due.due("the greatest one of " + n, x.value(IT, MOST), NONE);
            long step = all <= 4000 ? 1 : all / 1000;
            for (long i = 0; i < all; i += step) {
                Due.due("sign " + i + " of " + n, x.value(IT, (int) i), doubledSign(n, i));
            }
            for (long i = Math.max(0, all - 50); i < all; i++) {
                Due.due("sign " + i + " of " + n, x.value(IT, (int) i), doubledSign(n, i));
            }
            Due.due("taken of " + n, x.taken(IT, 1), n == 0 ? -3 : 2);
        }
        Due.due("infers", Talk.infers(x, "(s".repeat(23) + "0" + ")".repeat(23)) > 0, true);
        Due.due("507 steps", x.value(IT, NONE), -2);
    }

    /** The same within variants: < and > and the label are told by lengths, too. */
    private static void longVariants() {
        RowTypes x = with(DOUBLING);
        for (int n = 0; n <= 20; n += 4) {
            Due.due("infers", Talk.infers(x, "{H=7|{C=<G<H" + "(s".repeat(n) + "0" + ")".repeat(n) + ">>|{}}}") > 0, true);
            long all = doubled(n);
            String ahead = "{C=<G<H", behind = ">>,H=7}";
            Due.due("signs of " + n, x.value(IT, NONE), all + ahead.length() + behind.length());
            for (int i = 0; i < ahead.length(); i++) {
                Due.due("sign " + i, x.value(IT, i), ahead.charAt(i));
            }
            for (int i = 0; i < behind.length(); i++) {
                Due.due("sign " + i + " behind", x.value(IT, (int) all + ahead.length() + i), behind.charAt(i));
            }
            long step = all <= 4000 ? 1 : all / 997;
            for (long i = 0; i < all; i += step) {
                Due.due("sign within " + i, x.value(IT, (int) i + ahead.length()), doubledSign(n, i));
            }
        }
    }

    // Sixteen times, by a type that stays {}: p as above, q and r take H off again.
    private static final String[] SIXTEEN = {"\\x.\\y.?<Ax>[Az.z;Bz.y]",
        "\\x.$u=\\w.((px){H={A=w|{B=w|{C=w|{D=w|{}}}}}|{}});x", "\\e.$u=\\w.((p#He)-He);-H(qe)",
        "\\v.$y={A=v|{B=v|{C=v|{D=v|{}}}}};$x={A=y|{B=y|{C=y|{D=y|{}}}}};(r{H=x|x})"};

    /** Signs of {A=V,B=V,C=V,D=V}, V being n times the same. */
    private static long fourfold(int n) {
        return n == 0 ? 2 : 4 * fourfold(n - 1) + 13;
    }

    private static char fourfoldSign(int n, long i) {
        if (n == 0) {
            return "{}".charAt((int) i);
        }
        long part = fourfold(n - 1) + 3;
        if (i == 4 * part) {
            return '}';
        }
        long within = i % part;
        int which = (int) (i / part);
        return within >= 3 ? fourfoldSign(n - 1, within - 3)
                : within == 0 ? which == 0 ? '{' : ',' : within == 1 ? (char) ('A' + which) : '=';
    }

    private static void longerThanAnInt() {
        RowTypes x = with(SIXTEEN);
        for (int n = 0; n <= 12; n++) {
            Due.due("infers", Talk.infers(x, "(s".repeat(n) + "{}" + ")".repeat(n)) > 0, true);
            Due.due("its type", Talk.type(x, IT), "{}");
            Due.due("steps", x.steps(IT), 39 * n + 1);
            long all = fourfold(2 * n);
            // An int can't tell more than its greatest number.
            Due.due("signs of " + n, x.value(IT, NONE), Math.min(all, MOST));
            long last = Math.min(all - 1, MOST);
            long step = Math.max(1, last / 1000);
            for (long i = 0; i <= last; i += step) {
                Due.due("sign " + i + " of " + n, x.value(IT, (int) i), fourfoldSign(2 * n, i));
            }
            for (long i = Math.max(0, last - 40); i <= last; i++) {
                Due.due("sign " + i + " of " + n, x.value(IT, (int) i), fourfoldSign(2 * n, i));
            }
            if (all <= MOST) {
                Due.due("behind the last one", x.value(IT, (int) all), NONE);
            }
        }
    }
}
