import java.util.List;
import java.util.NoSuchElementException;
import java.util.TreeMap;

/**
 * What the promises say of one another: the type of each w is read back as it is written, and all that other calls tell of
 * it is held against that text. Each run is one of at most 512 calls on one object.
 */
public final class LawsTest {
    private static final int NONE = RowTypes.NONE;
    private static final int IT = -1;
    private static final int ANSWER = -2;
    private static final int MOST_CALLS = 512;
    private static final TreeMap<String, Integer> seen = new TreeMap<>();
    private static int wrong = 0;

    private final RowTypes x = new RowTypes();
    private final Maker maker;
    private final StringBuilder log = new StringBuilder();
    private int calls = 0;
    private boolean off = false;
    // The call that has made THE ANSWER, so that it can be made again.
    private String made = "closes";
    private int madeOf = 0;
    private int madeBy = 0;

    private LawsTest(long seed) {
        maker = new Maker(seed);
        log.append("seed ").append(seed).append('\n');
    }

    public static void main(String[] args) {
        int runs = args.length > 0 ? Integer.parseInt(args[0]) : 6000;
        long first = args.length > 1 ? Long.parseLong(args[1]) : 1;
        for (int i = 0; i < runs && wrong < 3; i++) {
            LawsTest run = new LawsTest(first + i);
            if (i % 8 == 0) {
                run.goHuge();
            } else {
                run.go();
            }
        }
        for (String must : new String[] {"SIZE 60", "more than 26 variables", "more than 52 variables", "eight labels", "an END more than once",
                "part above 60", "NAME above 60", "above another one",
                "sort 0", "sort 1", "sort 2", "sort 3", "sort 4", "value 0", "value 1", "value 2", "value 3"}) {
            if (!seen.containsKey(must) && runs >= 6000) {
                wrong++;
                System.out.println("never came: " + must);
            }
        }
        if (args.length > 0) {
            System.out.println(seen);
        }
        System.out.println(wrong == 0 ? "all laws hold" : wrong + " laws don't hold");
        if (wrong != 0) {
            System.exit(1);
        }
    }

    private static void note(String what) {
        seen.merge(what, 1, Integer::sum);
    }

    private int ask(String call, int a, int b) {
        calls++;
        off |= calls > MOST_CALLS;
        return Talk.ask(x, call, a, b);
    }

    private void law(String what, long got, long due) {
        law(what, String.valueOf(got), String.valueOf(due));
    }

    private void law(String what, String got, String due) {
        if (!off && !got.equals(due)) {
            wrong++;
            off = true;
            System.out.println(log + what + ": " + got + ", due is " + due);
        }
    }

    private void tell(String text) {
        log.append("told ").append(text).append('\n');
        for (int i = 0; i < text.length(); i += 4) {
            ask("sign", Talk.four(text, i), 0);
        }
        ask("end", text.length(), 0);
    }

    private String row() {
        StringBuilder s = new StringBuilder();
        int n = ask("count", 3, 0);
        for (int i = 0; i < n; i++) {
            s.append(i == 0 ? "" : " ").append(ask("row", i, 0));
        }
        return s.toString();
    }

    private String type(int w) {
        StringBuilder s = new StringBuilder();
        int n = ask("type", w, NONE);
        for (int i = 0; i < n; i++) {
            s.append((char) ask("type", w, i));
        }
        return s.toString();
    }

    // ---- a run

    private void go() {
        tell("\\x.x");
        law("defines", ask("defines", 0, 0), 0);
        int n = 1 + maker.random.nextInt(4);
        for (int i = 0; i < n; i++) {
            tell(cut(maker.random.nextBoolean() ? maker.great() : maker.strong()));
            ask("defines", 0, 0);
        }
        for (int i = 0; i < 3; i++) {
            int how = maker.random.nextInt(3);
            tell(cut(how == 0 ? maker.great() : how == 1 ? maker.calls(ask("count", 0, 0), 100) : maker.expression(ask("count", 0, 0), 100)));
            ask("infers", 0, 0);
        }
        makeAnswer();
        int w = maker.random.nextInt(3) > 0 ? maker.random.nextInt(2) - 2 : maker.random.nextInt(ask("count", 0, 0));
        laws(w);
    }

    /** A record of records, of SIZE 52 to 60, which is the type of a part of IT. */
    private void goHuge() {
        for (String text : Maker.HUGE) {
            tell(text);
            ask("defines", 0, 0);
        }
        String text = maker.huge();
        tell(text);
        int found = ask("infers", 0, 0);
        if (found != 1) {
            // The NAME was found once more when it was too great.
            law("too great", text.charAt(-7000 - found), 's');
            note("NAME above 60");
            return;
        }
        made = "part";
        madeOf = IT;
        madeBy = 19;
        int size = ask(made, madeOf, madeBy);
        if (size > 0) {
            laws(ANSWER);
        } else {
            law("above 60", size, -7000);
            note("part above 60");
        }
    }

    private void anew(int w) {
        if (w == ANSWER) {
            ask(made, madeOf, madeBy);
        }
    }

    private void laws(int w) {
        // Which law is looked at first is left to chance: a great type leaves no calls for many of them.
        String written = type(w);
        if (written.isEmpty()) {
            law("none such", ask("size", w, 0), NONE);
            return;
        }
        Written t = Written.type(written);
        if (!off) {
            noteType(t);
        }
        law("names of variables", t.again(false, false), written);
        int start = maker.random.nextInt(14);
        for (int k = 0; k < 14 && !off; k++) {
            look(w, t, written, (start + k) % 14);
        }
    }

    private static String cut(String text) {
        return text.length() > 100 ? text.substring(0, 100) : text;
    }

    private void makeAnswer() {
        int n = ask("count", 0, 0);
        int w = maker.random.nextInt(1 + n) - 1;
        String[] makers = {"part", "side", "meets", "applies", "field", "closes"};
        made = makers[maker.random.nextInt(makers.length)];
        int other = maker.random.nextInt(n);
        madeOf = made.equals("applies") ? other : w;
        madeBy = made.equals("part") ? maker.random.nextInt(60) : made.equals("side") ? maker.random.nextInt(2)
                : made.equals("meets") ? other : made.equals("applies") ? w : maker.random.nextInt(8);
        if (ask(made, madeOf, madeBy) < 0) {
            made = "closes";
            madeOf = 0;
            ask(made, madeOf, madeBy);
        }
    }

    private static void noteType(Written t) {
        int variables = t.variables().size();
        note("sort " + t.sort);
        note(t.size() == 60 ? "SIZE 60" : t.size() > 50 ? "SIZE above 50" : "SIZE up to 50");
        note(variables > 52 ? "more than 52 variables" : variables > 26 ? "more than 26 variables" : "up to 26 variables");
        if (hasAll(t)) {
            note("eight labels");
        }
        String s = t.again(false, false);
        for (String v : t.variables()) {
            if (v.startsWith("|") && s.split(java.util.regex.Pattern.quote(v) + "(?=[}>])", -1).length > 2) {
                note("an END more than once");
                return;
            }
        }
    }

    private static boolean hasAll(Written t) {
        if (t.labels() == 255 || t.sort == 1 && (hasAll(t.from) || hasAll(t.to))) {
            return true;
        }
        for (Written f : t.fields.values()) {
            if (hasAll(f)) {
                return true;
            }
        }
        return false;
    }

    private void look(int w, Written t, String written, int which) {
        log.append("law ").append(which).append(" of ").append(w).append(": ").append(written).append('\n');
        anew(w);
        switch (which) {
            case 0: size(w, t); break;
            case 1: lacks(w, t); break;
            case 2: sort(w, t); break;
            case 3: needs(w, t); break;
            case 4: field(w, t); break;
            case 5: side(w, t); break;
            case 6: closes(w, t); break;
            case 7: fits(w, t); break;
            case 8: same(w, t, "meets", w, w); break;
            case 9: same(w, t, "applies", 0, w); break;
            case 10: same(w, t, "part", w, 0); break;
            case 11: above(w, t); break;
            case 12: value(w, t); break;
            default: texts(w); break;
        }
    }

    private static int rowVariables(Written t) {
        return (int) t.variables().stream().filter(v -> v.startsWith("|")).count();
    }

    private void size(int w, Written t) {
        law("size", ask("size", w, 0), t.size());
        law("its ROW", row(), t.variables().size() + " " + rowVariables(t));
    }

    private void lacks(int w, Written t) {
        String before = row();
        List<String> all = t.variables();
        for (int k = 0; k < all.size(); k++) {
            int lacks = ask("lacks", w, k);
            boolean ofRow = all.get(k).startsWith("|");
            law("lacks " + k, ofRow ? lacks >= 0 && lacks < 256 && (lackedBy(t, all.get(k)) & ~lacks) == 0 ? 1 : 0 : lacks, ofRow ? 1 : -2);
        }
        law("lacks behind all", ask("lacks", w, all.size()), NONE);
        law("lacks below 0", ask("lacks", w, -1), NONE);
        law("the ROW stays", row(), before);
    }

    /** The labels of all rows that end with it: it must lack these. */
    private static int lackedBy(Written t, String end) {
        int labels = ("|" + t.end).equals(end) ? t.labels() : 0;
        if (t.sort == 1) {
            labels |= lackedBy(t.from, end) | lackedBy(t.to, end);
        }
        for (Written f : t.fields.values()) {
            labels |= lackedBy(f, end);
        }
        return labels;
    }

    private String rowOf(int w, Written whole, Written t) {
        if (t.sort != 2 && t.sort != 3) {
            return "";
        }
        int end = whole.variables().indexOf("|" + t.end);
        return t.labels() + (end < 0 ? " 0 0" : " 1 " + ask("lacks", w, end));
    }

    private void sort(int w, Written t) {
        law("sort", ask("sort", w, 0), t.sort);
        law("its ROW", row(), rowOf(w, t, t));
    }

    private void needs(int w, Written t) {
        String before = row();
        boolean such = t.sort == 1 && (t.from.sort == 2 || t.from.sort == 3);
        law("needs", ask("needs", w, 0), such ? t.from.sort - 2 : -2);
        law("its ROW", row(), such ? rowOf(w, t, t.from) : before);
    }

    private void field(int w, Written t) {
        String before = row();
        for (int label = -1; label < 9; label++) {
            anew(w);
            Written f = t.fields.get(label);
            boolean such = label >= 0 && label < 8;
            law("field " + label, ask("field", w, label), !such ? NONE : f == null ? -2 : f.size());
            if (f != null && maker.random.nextInt(3) == 0) {
                law("THE ANSWER", type(ANSWER), f.again(false, false));
            }
        }
        law("the ROW stays", row(), before);
    }

    private void side(int w, Written t) {
        String before = row();
        for (int which = -1; which < 3; which++) {
            anew(w);
            Written s = t.sort != 1 ? null : which == 0 ? t.from : t.to;
            boolean such = which == 0 || which == 1;
            law("side " + which, ask("side", w, which), !such ? NONE : s == null ? -2 : s.size());
            if (such && s != null) {
                law("THE ANSWER", type(ANSWER), s.again(false, false));
            }
        }
        law("the ROW stays", row(), before);
    }

    private void closes(int w, Written t) {
        String before = row();
        String closed = t.again(true, false);
        law("closes", ask("closes", w, 0), Written.type(closed).size());
        law("the ROW stays", row(), before);
        law("THE ANSWER", type(ANSWER), closed);
        if (w != ANSWER) {
            law("above what is closed", ask("above", w, ANSWER), 1);
            law("its ROW", row(), rowVariables(t) == 0 ? "1" : "0");
        }
    }

    private void fits(int w, Written t) {
        String before = row();
        String told = t.again(true, true);
        if (told.length() <= 100) {
            tell(told);
            law("fits", ask("fits", w, 0), 1);
            tell(told.substring(0, told.length() - 1));
            law("fits, cut", ask("fits", w, 0), -told.length());
            law("THE TEXT", ask("count", 4, 0), 0);
        }
        law("the ROW stays", row(), before);
    }

    /** A type unified with itself, given to \x.x, of the whole text, is the same one. */
    private void same(int w, Written t, String call, int a, int b) {
        if (w == ANSWER && call.equals("part")) {
            law("part of THE ANSWER", ask("part", w, 0), NONE);
            return;
        }
        String before = row();
        StringBuilder lacks = new StringBuilder();
        int n = t.variables().size();
        for (int k = 0; k < n; k++) {
            lacks.append(ask("lacks", w, k)).append(' ');
        }
        law(call, ask(call, a, b), t.size());
        law("the ROW stays", row(), before);
        law("THE ANSWER", type(ANSWER), t.again(false, false));
        for (int k = 0; k < n; k++) {
            lacks.append(-ask("lacks", ANSWER, k)).append(' ');
        }
        String[] both = lacks.toString().split(" ");
        for (int k = 0; k < n; k++) {
            law("LACKS " + k, Integer.parseInt(both[k]) + Integer.parseInt(both[n + k]), 0);
        }
    }

    private void above(int w, Written t) {
        law("above itself", ask("above", w, w), 1);
        law("its ROW", row(), "1");
        int other = maker.random.nextInt(ask("count", 0, 0));
        int there = ask("above", w, other);
        String back = row();
        law("the other way round", ask("above", other, w), Long.parseLong(back));
        law("its ROW", row(), String.valueOf(there));
        if (there == 1) {
            note("above another one");
            // What is above another one is that one, once they are unified.
            String due = type(other);
            law("meets", ask("meets", w, other), Written.type(due).size());
            law("THE ANSWER", type(ANSWER), due);
        }
    }

    private void value(int w, Written t) {
        int steps = ask("steps", w, 0);
        if (w == ANSWER) {
            law("steps of THE ANSWER", steps, NONE);
            return;
        }
        int n = ask("value", w, NONE);
        if (steps == -2) {
            law("value", n, -2);
            law("taken", ask("taken", w, 0), -2);
            return;
        }
        String told = row();
        if (n < 0 || n > 150) {
            return;
        }
        StringBuilder s = new StringBuilder();
        for (int i = 0; i < n; i++) {
            s.append((char) ask("value", w, i));
        }
        Written v = off ? null : Written.value(s.toString());
        if (v == null) {
            return;
        }
        note("value " + v.sort);
        law("behind its signs", ask("value", w, n), NONE);
        law("the ROW of steps", told, v.sort + " " + number(v));
        for (int label = 0; label < 8; label++) {
            Written f = v.fields.get(label);
            law("taken " + label, ask("taken", w, label), f == null ? -3 : f.sort);
            if (f != null) {
                law("its ROW", row(), String.valueOf(number(f)));
            }
        }
        law("the sort of the value", t.sort == 4 ? 4 : v.sort, t.sort);
    }

    private static int number(Written v) {
        return v.sort == 0 ? v.name.charAt(0) - '0' : v.sort == 1 ? NONE : v.sort == 2 ? v.labels() : v.fields.firstKey();
    }

    private void texts(int w) {
        int parts = ask("parts", w, 0);
        if (w == ANSWER) {
            law("parts of THE ANSWER", parts, NONE);
            return;
        }
        law("the ROW of parts", sum(11), parts);
        for (int label = 0; label < 8; label++) {
            int often = ask("often", w, label);
            law("the ROW of often", sum(4), often);
        }
        int names = ask("free", w, 0);
        int definitions = ask("count", 0, 0);
        law("NAMES that are free are of definitions", names & ~(((1 << definitions) - 1) << 15), 0);
        law("no deeper than there are parts", sum(1) <= parts ? 1 : 0, 1);
        int begins = 0;
        for (int place = 0; place < 100; place++) {
            begins += ask("part", w, place) == -2 ? 0 : 1;
        }
        law("as many places as parts", begins, parts);
    }

    private int sum(int numbers) {
        int all = 0;
        law("numbers of the ROW", ask("count", 3, 0), numbers);
        for (int i = 0; i < numbers; i++) {
            all += ask("row", i, 0);
        }
        return all;
    }
}
