import java.util.ArrayList;
import java.util.List;
import java.util.TreeMap;

/** A type or a value as it is written, read back: what other calls say of it can be told from its text alone. */
final class Written {
    /** 0 I, 1 a function, 2 a record, 3 a variant, 4 a variable; of a value 1 is \ and 4 does not come. */
    int sort;
    /** The name of a variable; the number of a value. */
    String name = "";
    Written from, to;
    final TreeMap<Integer, Written> fields = new TreeMap<>();
    /** The END, if it is a variable. */
    String end = "";

    private static String text;
    private static int at;

    private Written(int sort) {
        this.sort = sort;
    }

    static Written type(String written) {
        text = written;
        at = 0;
        Written t = type();
        must(at == text.length());
        return t;
    }

    static Written value(String written) {
        text = written;
        at = 0;
        Written v = value();
        must(at == text.length());
        return v;
    }

    private static void must(boolean so) {
        if (!so) {
            throw new IllegalStateException("can't be read at " + at + ": " + text);
        }
    }

    private static char next() {
        must(at < text.length());
        return text.charAt(at++);
    }

    private static boolean goesOn(char c) {
        if (at < text.length() && text.charAt(at) == c) {
            at++;
            return true;
        }
        return false;
    }

    private static String variable(char first) {
        must(first >= 'a' && first <= 'z');
        StringBuilder s = new StringBuilder().append(first);
        while (at < text.length() && Character.isDigit(text.charAt(at))) {
            s.append(next());
        }
        return s.toString();
    }

    private static Written type() {
        char c = next();
        if (c == 'I') {
            return new Written(0);
        }
        if (c == '(') {
            Written f = new Written(1);
            f.from = type();
            must(next() == '>');
            f.to = type();
            must(next() == ')');
            return f;
        }
        if (c != '{' && c != '<') {
            Written v = new Written(4);
            v.name = variable(c);
            return v;
        }
        Written r = new Written(c == '{' ? 2 : 3);
        char close = c == '{' ? '}' : '>';
        while (!goesOn(close)) {
            if (goesOn('|')) {
                r.end = variable(next());
                must(next() == close);
                return r;
            }
            must(r.fields.isEmpty() || next() == ',');
            int label = next() - 'A';
            must(label >= 0 && label < 8 && (r.fields.isEmpty() || label > r.fields.lastKey()));
            must(next() == ':');
            r.fields.put(label, type());
        }
        return r;
    }

    private static Written value() {
        char c = next();
        if (c == '\\') {
            return new Written(1);
        }
        if (c >= '0' && c <= '9') {
            Written n = new Written(0);
            n.name = String.valueOf(c);
            return n;
        }
        must(c == '{' || c == '<');
        Written r = new Written(c == '{' ? 2 : 3);
        if (c == '<') {
            int label = next() - 'A';
            must(label >= 0 && label < 8);
            r.fields.put(label, value());
            must(next() == '>');
            return r;
        }
        while (!goesOn('}')) {
            must(r.fields.isEmpty() || next() == ',');
            int label = next() - 'A';
            must(label >= 0 && label < 8 && (r.fields.isEmpty() || label > r.fields.lastKey()));
            must(next() == '=');
            r.fields.put(label, value());
        }
        return r;
    }

    int size() {
        int all = 1 + (end.isEmpty() ? 0 : 1) + (sort == 1 ? from.size() + to.size() : 0);
        for (Written f : fields.values()) {
            all += f.size();
        }
        return all;
    }

    int labels() {
        int bits = 0;
        for (int label : fields.keySet()) {
            bits |= 1 << label;
        }
        return bits;
    }

    /** Variables by the order in which they come first; those of rows with | ahead. */
    List<String> variables() {
        List<String> all = new ArrayList<>();
        gather(all);
        return all;
    }

    private void gather(List<String> all) {
        if (sort == 4 && !all.contains(name)) {
            all.add(name);
        }
        if (sort == 1 && from != null) {
            from.gather(all);
            to.gather(all);
        }
        for (Written f : fields.values()) {
            f.gather(all);
        }
        if (!end.isEmpty() && !all.contains("|" + end)) {
            all.add("|" + end);
        }
    }

    /** Written again, its variables named anew; without its ENDs if they are closed; numbers for its variables if it is told. */
    String again(boolean closed, boolean told) {
        List<String> names = new ArrayList<>();
        return again(names, closed, told);
    }

    private static String named(List<String> names, String one) {
        if (!names.contains(one)) {
            names.add(one);
        }
        int k = names.indexOf(one);
        return (char) ('a' + k % 26) + (k < 26 ? "" : String.valueOf(k / 26));
    }

    private String again(List<String> names, boolean closed, boolean told) {
        switch (sort) {
            case 0: return "I";
            case 1: return "(" + from.again(names, closed, told) + ">" + to.again(names, closed, told) + ")";
            case 4: return told ? "I" : named(names, name);
            default:
        }
        StringBuilder s = new StringBuilder(sort == 2 ? "{" : "<");
        for (int label : fields.keySet()) {
            s.append(s.length() > 1 ? "," : "").append((char) ('A' + label)).append(':');
            s.append(fields.get(label).again(names, closed, told));
        }
        if (!end.isEmpty() && !closed) {
            s.append('|').append(named(names, "|" + end));
        }
        return s.append(sort == 2 ? '}' : '>').toString();
    }
}
