/** Which sign can stand where in an expression and in a told type: all 256 at each kind of place. */
public final class SignsTest {
    private static final String NAMES = "abcdefghijklmnopqrstuvwxyz";
    private static final String EXPRESSIONS = "0123456789" + NAMES + "\\($&{#-~<?";
    private static final String LABELS = "ABCDEFGH";
    private static final String TYPES = "I({<";
    private static final int DEFINES = 0, INFERS = 1, FITS = 2;
    // As many texts as 512 calls can tell: 25 signs, an end before and behind, and the call that reads.
    private static final int TEXTS = 18;
    private static RowTypes x;
    private static int told = 0;

    public static void main(String[] args) {
        expressions();
        branches();
        wholeExpressions();
        longExpressions();
        types();
        wholeTypes();
        longTypes();
        Due.end();
    }

    private static int answer(int call, String text) {
        if (x == null || told % TEXTS == 0) {
            x = new RowTypes();
            Talk.infers(x, "1");
        }
        told++;
        if (x.count(0) == 8) {
            x.forgets(0);
        }
        int got = call == FITS ? Talk.fits(x, -1, text) : call == INFERS ? Talk.infers(x, text) : Talk.defines(x, text);
        Due.due("signs behind call " + call + " of " + text, x.count(4), 0);
        return got;
    }

    private static void mustBeBad(int call, String text, int place) {
        Due.due("call " + call + " of " + text, answer(call, text), -1 - place);
    }

    /** Behind what was told, just these signs can stand; and it ends too early. */
    private static void next(int call, String before, String signs) {
        int place = before.length();
        mustBeBad(call, before, place);
        for (int sign = 0; sign < 256; sign++) {
            String text = before + (char) sign;
            boolean bad = answer(call, text) == -1 - place;
            Due.due("call " + call + " can't have sign " + sign + " at the end of " + text, bad, signs.indexOf(sign) < 0);
        }
    }

    private static void nextOfBoth(String before, String signs) {
        next(INFERS, before, signs);
        next(DEFINES, before, signs);
    }

    private static String without(String signs, String some) {
        StringBuilder s = new StringBuilder();
        for (char c : signs.toCharArray()) {
            s.append(some.indexOf(c) < 0 ? String.valueOf(c) : "");
        }
        return s.toString();
    }

    private static void expressions() {
        Due.says(4, "-1 - p: the sign at p can't stand there (its end, if it ends too early;");
        nextOfBoth("", EXPRESSIONS);
        nextOfBoth("\\", NAMES);
        nextOfBoth("\\x", ".");
        nextOfBoth("\\x.", EXPRESSIONS);
        nextOfBoth("(", EXPRESSIONS);
        nextOfBoth("(1", EXPRESSIONS);
        nextOfBoth("(12", ")");
        nextOfBoth("$", NAMES);
        nextOfBoth("$x", "=");
        nextOfBoth("$x=", EXPRESSIONS);
        nextOfBoth("$x=1", ";");
        nextOfBoth("$x=1;", EXPRESSIONS);
        nextOfBoth("{", LABELS + "}");
        nextOfBoth("{A", "=");
        nextOfBoth("{A=", EXPRESSIONS);
        nextOfBoth("{A=1", "|");
        nextOfBoth("{A=1|", EXPRESSIONS);
        nextOfBoth("{A=1|{}", "}");
        nextOfBoth("#", LABELS);
        nextOfBoth("#A", EXPRESSIONS);
        nextOfBoth("-", LABELS);
        nextOfBoth("-A", EXPRESSIONS);
        nextOfBoth("&", EXPRESSIONS);
        nextOfBoth("&1", EXPRESSIONS);
        nextOfBoth("<", LABELS);
        nextOfBoth("<A", EXPRESSIONS);
        nextOfBoth("<A1", ">");
        Due.says(4, "of ~ the same one again)");
        nextOfBoth("~", LABELS);
        nextOfBoth("~A", without(LABELS, "A"));
        nextOfBoth("~D", without(LABELS, "D"));
        nextOfBoth("~H", without(LABELS, "H"));
        nextOfBoth("~AB", EXPRESSIONS);
        nextOfBoth("~AB~A", without(LABELS, "A"));
    }

    private static void branches() {
        Due.says(0, "BRANCHES with ; between, one or more, LABEL NAME . E (each LABEL once), the last one may be * NAME . E");
        nextOfBoth("?", EXPRESSIONS);
        nextOfBoth("?1", "[");
        nextOfBoth("?1[", LABELS + "*");
        nextOfBoth("?1[A", NAMES);
        nextOfBoth("?1[Ax", ".");
        nextOfBoth("?1[Ax.", EXPRESSIONS);
        nextOfBoth("?1[Ax.1", ";]");
        nextOfBoth("?1[*", NAMES);
        nextOfBoth("?1[*x", ".");
        nextOfBoth("?1[*x.", EXPRESSIONS);
        nextOfBoth("?1[*x.1", "]");
        nextOfBoth("?1[Ax.1;*x.1", "]");
        Due.says(4, "a LABEL that was there among BRANCHES;");
        nextOfBoth("?1[Ax.1;", without(LABELS, "A") + "*");
        nextOfBoth("?1[Hx.1;Bx.1;", without(LABELS, "HB") + "*");
        StringBuilder all = new StringBuilder("?1[");
        for (char label : without(LABELS, "H").toCharArray()) {
            all.append(label).append("x.1;");
        }
        nextOfBoth(all.toString(), "H*");
        nextOfBoth(all + "Hx.1", ";]");
        nextOfBoth(all + "Hx.1;", "*");
        // Of another ? that is within, or beside, the labels are its own.
        nextOfBoth("?1[Ax.?2[", LABELS + "*");
        nextOfBoth("?1[Ax.?2[Bx.1;", without(LABELS, "B") + "*");
        nextOfBoth("?1[Ax.?2[Bx.1];", without(LABELS, "A") + "*");
        nextOfBoth("?1[Ax.?2[*x.1];", without(LABELS, "A") + "*");
        nextOfBoth("??1[Ax.1][", LABELS + "*");
    }

    /** Each text as it is ends in time; cut, spoilt or with a sign more it does not. */
    private static void whole(int call, String text, boolean faultless) {
        int got = answer(call, text);
        Due.due("call " + call + " of " + text + " is taken", got >= 0 || !faultless && got <= -1000, true);
        for (int place = 0; place < text.length(); place++) {
            mustBeBad(call, text.substring(0, place), place);
            for (char sign : new char[] {0, ' ', '!', 127, 128, 255}) {
                mustBeBad(call, text.substring(0, place) + sign + text.substring(place + 1), place);
            }
        }
        for (char sign : (text + "\u0000 1xA{}()[]<>;.*").toCharArray()) {
            mustBeBad(call, text + sign, text.length());
        }
    }

    private static void wholeExpressions() {
        Due.says(4, "-1 - p: the sign at p can't stand there (its end, if it ends too early;");
        for (int call : new int[] {INFERS, DEFINES}) {
            for (String text : new String[] {"0", "9", "\\a.a", "\\z.z", "(\\x.x1)", "$x=1;x", "{}", "{A=1|{}}",
                    "{H=1|{G={}|{}}}", "#A{A=1|{}}", "-H{H=1|{}}", "~AH{A=1|{}}", "~HA{H=1|{}}", "&{}{A=1|{}}", "<A1>",
                    "<H<A1>>", "?<A1>[Ax.x]", "?<A1>[*x.2]", "?<A1>[Ax.x;*x.2]", "?<A1>[Bx.x;Ay.y;*z.3]",
                    "?<A<A1>>[Ax.?x[Ay.y;By.y]]", "$f=\\r.~AB-C&r{D=1|{}};\\x.(fx)"}) {
                whole(call, text, true);
            }
            whole(call, "a", false);
            whole(call, "z", false);
            whole(call, "(12)", false);
        }
    }

    private static void longExpressions() {
        Due.says(4, "its end, if it ends too early;");
        for (int call : new int[] {INFERS, DEFINES}) {
            for (String begin : new String[] {"&", "(", "#A", "\\x.", "{A=", "?", "<A", "$x=", "~AB", "?1[Ax."}) {
                String text = begin.repeat(100).substring(0, 100);
                if (!text.endsWith("#")) {
                    mustBeBad(call, text, 100);
                }
                mustBeBad(call, text.substring(0, 99) + "!", 99);
            }
        }
        String text = "#C{C=1|" + "~BA~AB".repeat(14) + "{A=1|{}}}";
        Due.due("100 signs", text.length(), 100);
        Due.due("100 signs", answer(INFERS, text), 1);
        mustBeBad(INFERS, text.substring(0, 99), 99);
        mustBeBad(INFERS, text.substring(0, 99) + "|", 99);
        mustBeBad(INFERS, text.substring(2) + "}", 98);
    }

    private static void types() {
        Due.says(15, "-1 - p: the sign at p can't stand there;");
        next(FITS, "", TYPES);
        next(FITS, "(", TYPES);
        next(FITS, "(I", ">");
        next(FITS, "(I>", TYPES);
        next(FITS, "(I>I", ")");
        next(FITS, "{", LABELS + "}");
        next(FITS, "<", LABELS + ">");
        next(FITS, "{A", ":");
        next(FITS, "<A", ":");
        next(FITS, "{A:", TYPES);
        next(FITS, "<A:", TYPES);
        next(FITS, "{A:I", ",}");
        next(FITS, "<A:I", ",>");
        Due.says(15, "FIELDS in any order, each LABEL once in a ROW");
        next(FITS, "{A:I,", without(LABELS, "A"));
        next(FITS, "<A:I,", without(LABELS, "A"));
        next(FITS, "{H:I,A:I,", without(LABELS, "HA"));
        next(FITS, "<H:I,A:I,", without(LABELS, "HA"));
        next(FITS, "{H:I,G:I,F:I,E:I,D:I,C:I,B:I,", "A");
        next(FITS, "{H:I,G:I,F:I,E:I,D:I,C:I,B:I,A:I", ",}");
        next(FITS, "{H:I,G:I,F:I,E:I,D:I,C:I,B:I,A:I,", "");
        // Of another row that is within, or beside, the labels are its own.
        next(FITS, "{A:{", LABELS + "}");
        next(FITS, "{A:<", LABELS + ">");
        next(FITS, "{A:{B:I}", ",}");
        next(FITS, "{A:{B:I},", without(LABELS, "A"));
        next(FITS, "({A:I}>{", LABELS + "}");
    }

    private static void wholeTypes() {
        Due.says(15, "-1 - p: the sign at p can't stand there;");
        for (String text : new String[] {"I", "(I>I)", "{}", "<>", "{A:I}", "<H:I>", "{B:I,A:I}", "<H:{},A:<>>",
                "((I>I)>(I>{A:{A:I}}))", "{H:I,G:I,F:I,E:I,D:I,C:I,B:I,A:I}"}) {
            whole(FITS, text, true);
        }
    }

    private static void longTypes() {
        Due.says(15, "-1 - p: the sign at p can't stand there;");
        for (String begin : new String[] {"(", "{A:", "<A:", "({A:<B:"}) {
            String text = begin.repeat(100).substring(0, 100);
            mustBeBad(FITS, text, 100);
            mustBeBad(FITS, text.substring(0, 99) + "!", 99);
        }
        String text = "{A:".repeat(22) + "({}>({}><>))" + "}".repeat(22);
        Due.due("100 signs", text.length(), 100);
        Due.due("100 signs", answer(FITS, text), 0);
        mustBeBad(FITS, text.substring(0, 99), 99);
        mustBeBad(FITS, text.substring(0, 99) + ">", 99);
        mustBeBad(FITS, "{}" + text.substring(2), 2);
    }
}
