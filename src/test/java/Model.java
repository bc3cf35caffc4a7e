import java.util.ArrayList;
import java.util.IdentityHashMap;
import java.util.LinkedHashMap;
import java.util.LinkedHashSet;
import java.util.List;
import java.util.Map;
import java.util.NoSuchElementException;
import java.util.Set;
import java.util.TreeMap;

/** The document once more, as plain recursion over trees: what RowTypes is held against. */
final class Model {
    static final int NONE = -1;

    // ---- types

    static class Type { }
    static final class Num extends Type { }
    static final class Fun extends Type {
        final Type from, to;
        Fun(Type from, Type to) { this.from = from; this.to = to; }
    }
    static final class Rows extends Type {
        final boolean record;
        final Row row;
        Rows(boolean record, Row row) { this.record = record; this.row = row; }
    }
    static final class Var extends Type {
        Type is;
        boolean fixed;
    }
    static final class Row {
        final TreeMap<Integer, Type> fields = new TreeMap<>();
        End end;
    }
    static final class End {
        int lacks;
        Row is;
        boolean fixed;
        End(int lacks) { this.lacks = lacks; }
    }

    static final class Fault extends RuntimeException {
        final int number, label;
        int place;
        Fault(int number, int label) { super(null, null, false, false); this.number = number; this.label = label; }
    }

    static Type see(Type t) {
        while (t instanceof Var v && v.is != null) t = v.is;
        return t;
    }

    /** A row with all that its end has become. */
    static Row see(Row r) {
        Row out = new Row();
        out.fields.putAll(r.fields);
        out.end = r.end;
        while (out.end != null && out.end.is != null) {
            Row more = out.end.is;
            for (int label : more.fields.keySet()) {
                if (out.fields.containsKey(label)) throw new IllegalStateException("label twice");
            }
            out.fields.putAll(more.fields);
            out.end = more.end;
        }
        return out;
    }

    static long size(Type t) {
        t = see(t);
        if (t instanceof Fun f) return Math.min(1000, 1 + size(f.from) + size(f.to));
        if (t instanceof Rows r) {
            Row row = see(r.row);
            long all = 1 + (row.end == null ? 0 : 1);
            for (Type f : row.fields.values()) all += size(f);
            return Math.min(1000, all);
        }
        return 1;
    }

    /** Variables and ends by the order in which they come. */
    static void variables(Type t, Set<Object> into) {
        t = see(t);
        if (t instanceof Var) into.add(t);
        if (t instanceof Fun f) { variables(f.from, into); variables(f.to, into); }
        if (t instanceof Rows r) {
            Row row = see(r.row);
            for (Type f : row.fields.values()) variables(f, into);
            if (row.end != null) into.add(row.end);
        }
    }

    static List<Object> variables(Type t) {
        Set<Object> s = new LinkedHashSet<>();
        variables(t, s);
        return new ArrayList<>(s);
    }

    static String write(Type t, List<Object> vars) {
        t = see(t);
        if (t instanceof Num) return "I";
        if (t instanceof Fun f) return "(" + write(f.from, vars) + ">" + write(f.to, vars) + ")";
        if (t instanceof Rows r) {
            Row row = see(r.row);
            StringBuilder s = new StringBuilder();
            for (Map.Entry<Integer, Type> f : row.fields.entrySet()) {
                if (s.length() > 0) s.append(',');
                s.append((char) ('A' + f.getKey())).append(':').append(write(f.getValue(), vars));
            }
            if (row.end != null) s.append('|').append(name(vars.indexOf(row.end)));
            return r.record ? "{" + s + "}" : "<" + s + ">";
        }
        return name(vars.indexOf(t));
    }

    static String name(int i) {
        return (char) ('a' + i % 26) + (i < 26 ? "" : String.valueOf(i / 26));
    }

    static Type copy(Type t, Map<Object, Object> to, Set<Object> stay, boolean fixed) {
        t = see(t);
        if (t instanceof Fun f) return new Fun(copy(f.from, to, stay, fixed), copy(f.to, to, stay, fixed));
        if (t instanceof Rows r) {
            Row row = see(r.row), out = new Row();
            for (Map.Entry<Integer, Type> f : row.fields.entrySet()) {
                out.fields.put(f.getKey(), copy(f.getValue(), to, stay, fixed));
            }
            if (row.end != null && stay.contains(row.end)) {
                out.end = row.end;
            } else if (row.end != null) {
                if (!to.containsKey(row.end)) {
                    End e = new End(row.end.lacks);
                    e.fixed = fixed;
                    to.put(row.end, e);
                }
                out.end = (End) to.get(row.end);
            }
            return new Rows(r.record, out);
        }
        if (t instanceof Var && !stay.contains(t)) {
            if (!to.containsKey(t)) {
                Var v = new Var();
                v.fixed = fixed;
                to.put(t, v);
            }
            return (Type) to.get(t);
        }
        return t;
    }

    static Type fresh(Type t) {
        return copy(t, new LinkedHashMap<>(), Set.of(), false);
    }

    static void unify(Type a, Type b) {
        a = see(a);
        b = see(b);
        if (a instanceof Var && a == b) return;
        if (a instanceof Var v) { become(v, b); return; }
        if (b instanceof Var v) { become(v, a); return; }
        if (a instanceof Num && b instanceof Num) return;
        if (a instanceof Fun f && b instanceof Fun g) {
            unify(f.from, g.from);
            unify(f.to, g.to);
            return;
        }
        if (a instanceof Rows r && b instanceof Rows s && r.record == s.record) {
            unify(r.row, s.row);
            return;
        }
        throw new Fault(2, NONE);
    }

    static void become(Var v, Type t) {
        if (variables(t).contains(v)) throw new Fault(5, NONE);
        v.is = t;
    }

    static void unify(Row r, Row s) {
        for (int label = 0; label < 8; label++) {
            Row a = see(r), b = see(s);
            Type ta = a.fields.get(label), tb = b.fields.get(label);
            if (ta != null && tb != null) unify(ta, tb);
            else if (ta != null) take(b.end, a.end, label, ta);
            else if (tb != null) take(a.end, b.end, label, tb);
        }
        Row a = see(r), b = see(s);
        if (a.end == b.end) return;
        if (a.end == null) { b.end.is = new Row(); return; }
        if (b.end == null) { a.end.is = new Row(); return; }
        b.end.lacks |= a.end.lacks;
        a.end.is = new Row();
        a.end.is.end = b.end;
    }

    static void take(End end, End other, int label, Type t) {
        if (end == null) throw new Fault(3, label);
        if (end == other) throw new Fault(5, NONE);
        if ((end.lacks >> label & 1) != 0) throw new Fault(4, label);
        if (variables(t).contains(end)) throw new Fault(5, NONE);
        Row is = new Row();
        is.fields.put(label, t);
        is.end = new End(end.lacks | 1 << label);
        end.is = is;
    }

    /** Whether a, with types for its variables and rows for its ends, is b. */
    static boolean above(Type a, Type b, Map<Object, Object> to) {
        a = see(a);
        b = see(b);
        if (a instanceof Num) return b instanceof Num;
        if (a instanceof Fun f) return b instanceof Fun g && above(f.from, g.from, to) && above(f.to, g.to, to);
        if (a instanceof Var) {
            if (!to.containsKey(a)) { to.put(a, b); return true; }
            return same((Type) to.get(a), b);
        }
        Rows r = (Rows) a;
        if (!(b instanceof Rows s) || r.record != s.record) return false;
        Row ra = see(r.row), rb = see(s.row), rest = new Row();
        rest.fields.putAll(rb.fields);
        rest.end = rb.end;
        for (int label : ra.fields.keySet()) {
            Type other = rest.fields.remove(label);
            if (other == null || !above(ra.fields.get(label), other, to)) return false;
        }
        if (ra.end == null) return rest.fields.isEmpty() && rest.end == null;
        for (int label : rest.fields.keySet()) if ((ra.end.lacks >> label & 1) != 0) return false;
        if (rest.end != null && (ra.end.lacks & ~rest.end.lacks) != 0) return false;
        if (!to.containsKey(ra.end)) { to.put(ra.end, rest); return true; }
        return same((Row) to.get(ra.end), rest);
    }

    static boolean same(Type a, Type b) {
        a = see(a);
        b = see(b);
        if (a instanceof Num) return b instanceof Num;
        if (a instanceof Var) return a == b;
        if (a instanceof Fun f) return b instanceof Fun g && same(f.from, g.from) && same(f.to, g.to);
        Rows r = (Rows) a;
        return b instanceof Rows s && r.record == s.record && same(see(r.row), see(s.row));
    }

    static boolean same(Row a, Row b) {
        if (a.end != b.end || !a.fields.keySet().equals(b.fields.keySet())) return false;
        for (int label : a.fields.keySet()) if (!same(a.fields.get(label), b.fields.get(label))) return false;
        return true;
    }

    // ---- expressions

    static final class Ex {
        int place;
        char kind; // its first sign; 0 of numbers, a of names, e of {}
        char name;
        int number, label, other;
        Ex one, two;
        List<Branch> branches = new ArrayList<>();
        Type type;
    }

    static final class Branch {
        int place, label; // NONE: the others
        char name;
        Ex then;
    }

    static final class Bad extends RuntimeException {
        final int place;
        Bad(int place) { super(null, null, false, false); this.place = place; }
    }

    static final class Parser {
        final String s;
        int at;
        Parser(String s) { this.s = s; }

        char peek() { return at < s.length() ? s.charAt(at) : 0xFFFF; }
        char next() { char c = peek(); at++; return c; }
        void must(char c) { if (peek() != c) throw new Bad(at); at++; }
        int label() { char c = peek(); if (c < 'A' || c > 'H') throw new Bad(at); at++; return c - 'A'; }
        char name() { char c = peek(); if (c < 'a' || c > 'z') throw new Bad(at); at++; return c; }

        Ex whole() {
            Ex e = expression();
            if (at < s.length()) throw new Bad(at);
            return e;
        }

        Ex expression() {
            Ex e = new Ex();
            e.place = at;
            char c = peek();
            if (c >= '0' && c <= '9') { at++; e.kind = '0'; e.number = c - '0'; return e; }
            if (c >= 'a' && c <= 'z') { at++; e.kind = 'a'; e.name = c; return e; }
            if (c == 0xFFFF || "\\($&{#-~<?".indexOf(c) < 0) throw new Bad(at);
            at++;
            e.kind = c;
            switch (c) {
                case '\\' -> { e.name = name(); must('.'); e.one = expression(); }
                case '(' -> { e.one = expression(); e.two = expression(); must(')'); }
                case '$' -> { e.name = name(); must('='); e.one = expression(); must(';'); e.two = expression(); }
                case '{' -> {
                    if (peek() == '}') { at++; e.kind = 'e'; break; }
                    e.label = label(); must('='); e.one = expression(); must('|'); e.two = expression(); must('}');
                }
                case '#', '-' -> { e.label = label(); e.one = expression(); }
                case '~' -> {
                    e.label = label();
                    e.other = label();
                    if (e.label == e.other) throw new Bad(at - 1);
                    e.one = expression();
                }
                case '&' -> { e.one = expression(); e.two = expression(); }
                case '<' -> { e.label = label(); e.one = expression(); must('>'); }
                default -> { e.one = expression(); must('['); branches(e); }
            }
            return e;
        }

        void branches(Ex e) {
            int seen = 0;
            while (true) {
                Branch b = new Branch();
                b.place = at;
                if (peek() == '*') {
                    at++;
                    b.label = NONE;
                } else {
                    b.label = label();
                    if ((seen >> b.label & 1) != 0) throw new Bad(at - 1);
                    seen |= 1 << b.label;
                }
                b.name = name();
                must('.');
                b.then = expression();
                e.branches.add(b);
                if (b.label != NONE && peek() == ';') { at++; continue; }
                must(']');
                return;
            }
        }

        Type type() {
            char c = peek();
            if (c == 'I') { at++; return new Num(); }
            if (c == '(') {
                at++;
                Type from = type();
                must('>');
                Type to = type();
                must(')');
                return new Fun(from, to);
            }
            if (c != '{' && c != '<') throw new Bad(at);
            at++;
            char close = c == '{' ? '}' : '>';
            Row row = new Row();
            if (peek() == close) { at++; return new Rows(c == '{', row); }
            while (true) {
                int label = label();
                if (row.fields.containsKey(label)) throw new Bad(at - 1);
                must(':');
                row.fields.put(label, type());
                if (peek() == ',') { at++; continue; }
                must(close);
                return new Rows(c == '{', row);
            }
        }
    }

    static List<Ex> within(Ex e) {
        List<Ex> all = new ArrayList<>();
        all.add(e);
        if (e.one != null) all.addAll(within(e.one));
        if (e.two != null) all.addAll(within(e.two));
        for (Branch b : e.branches) all.addAll(within(b.then));
        return all;
    }

    static int depth(Ex e) {
        int d = 0;
        if (e.one != null) d = Math.max(d, depth(e.one));
        if (e.two != null) d = Math.max(d, depth(e.two));
        for (Branch b : e.branches) d = Math.max(d, depth(b.then));
        return d + 1;
    }

    static int free(Ex e, String bound) {
        if (e.kind == 'a') return bound.indexOf(e.name) >= 0 ? 0 : 1 << e.name - 'a';
        int all = 0;
        if (e.one != null) all |= free(e.one, e.kind == '\\' ? bound + e.name : bound);
        if (e.two != null) all |= free(e.two, e.kind == '$' ? bound + e.name : bound);
        for (Branch b : e.branches) all |= free(b.then, bound + b.name);
        return all;
    }

    // ---- the type of an expression

    static final class Env {
        final char name;
        final Type type;
        final boolean let;
        final Set<Object> stay;
        final Env out;
        Env(char name, Type type, boolean let, Set<Object> stay, Env out) {
            this.name = name; this.type = type; this.let = let; this.stay = stay; this.out = out;
        }
    }

    static Rows record(Row r) { return new Rows(true, r); }
    static Row row(End end) { Row r = new Row(); r.end = end; return r; }
    static Row row(int label, Type t, End end) { Row r = row(end); r.fields.put(label, t); return r; }

    void unify(Type a, Type b, int place) {
        try {
            unify(a, b);
        } catch (Fault f) {
            f.place = place;
            throw f;
        }
    }

    static Fault fault(int number, int place) {
        Fault f = new Fault(number, NONE);
        f.place = place;
        return f;
    }

    Type find(Ex e, Env env) {
        e.type = findPlain(e, env);
        if (size(e.type) > 60) throw fault(7, e.place);
        return e.type;
    }

    Type findPlain(Ex e, Env env) {
        switch (e.kind) {
            case '0': return new Num();
            case 'a': {
                for (Env at = env; at != null; at = at.out) {
                    if (at.name == e.name) {
                        if (!at.let) return at.type;
                        // Those that were not in types of names around: asked anew, with what they are now.
                        Set<Object> stay = new LinkedHashSet<>();
                        for (Env o = at.out; o != null; o = o.out) if (!o.let) variables(o.type, stay);
                        return copy(at.type, new LinkedHashMap<>(), stay, false);
                    }
                }
                int k = e.name - 'p';
                if (k < 0 || k >= definitions.size()) throw fault(1, e.place);
                return fresh(definitions.get(k).type);
            }
            case '\\': {
                Var v = new Var();
                return new Fun(v, find(e.one, new Env(e.name, v, false, null, env)));
            }
            case '(': {
                Type f = find(e.one, env), g = find(e.two, env);
                Var v = new Var();
                unify(f, new Fun(g, v), e.place);
                return v;
            }
            case '$': {
                Type t = find(e.one, env);
                return find(e.two, new Env(e.name, t, true, null, env));
            }
            case 'e': return record(new Row());
            case '{': {
                Type f = find(e.one, env), g = find(e.two, env);
                End end = new End(1 << e.label);
                unify(g, record(row(end)), e.place);
                return record(row(e.label, f, end));
            }
            case '#': case '-': case '~': {
                Type f = find(e.one, env);
                Var v = new Var();
                End end = new End(1 << e.label | (e.kind == '~' ? 1 << e.other : 0));
                unify(f, record(row(e.label, v, end)), e.place);
                return e.kind == '#' ? v : record(e.kind == '-' ? row(end) : row(e.other, v, end));
            }
            case '&': return findJoin(e, find(e.one, env), find(e.two, env));
            case '<': return new Rows(false, row(e.label, find(e.one, env), new End(1 << e.label)));
            default: return findChoice(e, env);
        }
    }

    Type findJoin(Ex e, Type f, Type g) {
        unify(f, record(row(new End(0))), e.place);
        unify(g, record(row(new End(0))), e.place);
        Row rf = see(((Rows) see(f)).row), rg = see(((Rows) see(g)).row);
        if (rg.end != null && rf.end != null) throw fault(6, e.place);
        Row closed = rg.end == null ? rg : rf;
        int labels = 0;
        for (int label : closed.fields.keySet()) labels |= 1 << label;
        End end = new End(labels);
        unify(rg.end == null ? f : g, record(row(end)), e.place);
        Row out = row(end);
        out.fields.putAll(closed.fields);
        return record(out);
    }

    Type findChoice(Ex e, Env env) {
        Type f = find(e.one, env);
        Row row = new Row();
        int labels = 0;
        boolean others = false;
        for (Branch b : e.branches) {
            if (b.label == NONE) others = true;
            else { row.fields.put(b.label, new Var()); labels |= 1 << b.label; }
        }
        End end = new End(labels);
        if (others) row.end = end;
        unify(f, new Rows(false, row), e.place);
        Var result = new Var();
        for (Branch b : e.branches) {
            Type t = b.label == NONE ? new Rows(false, row(end)) : row.fields.get(b.label);
            unify(find(b.then, new Env(b.name, t, false, null, env)), result, b.place);
        }
        return result;
    }

    // ---- values

    static final class Value {
        int sort, number;
        Ex function;
        Names names;
        final TreeMap<Integer, Value> fields = new TreeMap<>();
        Value inner;
    }

    static final class Names {
        final char name;
        final Value value;
        final Names out;
        Names(char name, Value value, Names out) { this.name = name; this.value = value; this.out = out; }
    }

    static final class TooMany extends RuntimeException {
        TooMany() { super(null, null, false, false); }
    }

    /**
     * Two rows may be unified and yet differ (each label is looked at once), so that an expression that has a type
     * can take a field that is not there, or of another sort. The document tells no value then, but the steps.
     */
    static Value nothing() {
        Value v = new Value();
        v.sort = NONE;
        v.number = NONE;
        return v;
    }

    int stepsDone;

    Value work(Ex e, Names n) {
        if (++stepsDone > 500) throw new TooMany();
        Value v = new Value();
        switch (e.kind) {
            case '0': v.number = e.number; return v;
            case 'a':
                for (Names at = n; at != null; at = at.out) if (at.name == e.name) return at.value;
                return work(definitions.get(e.name - 'p').ex, null);
            case '\\': v.sort = 1; v.number = NONE; v.function = e; v.names = n; return v;
            case '(': {
                Value f = work(e.one, n), g = work(e.two, n);
                return f.sort != 1 ? nothing() : work(f.function.one, new Names(f.function.name, g, f.names));
            }
            case '$': return work(e.two, new Names(e.name, work(e.one, n), n));
            case 'e': v.sort = 2; return v;
            case '{': {
                Value f = work(e.one, n), g = work(e.two, n);
                v.fields.putAll(g.fields);
                v.fields.put(e.label, f);
                return g.sort != 2 ? nothing() : recordOf(v);
            }
            case '#': case '-': case '~': return changed(e, work(e.one, n));
            case '&': {
                Value f = work(e.one, n), g = work(e.two, n);
                v.fields.putAll(f.fields);
                v.fields.putAll(g.fields);
                return f.sort != 2 || g.sort != 2 ? nothing() : recordOf(v);
            }
            case '<': v.sort = 3; v.number = e.label; v.inner = work(e.one, n); return v;
            default: {
                Value f = work(e.one, n);
                for (Branch b : e.branches) {
                    if (f.sort == 3 && b.label == f.number) return work(b.then, new Names(b.name, f.inner, n));
                    if (f.sort == 3 && b.label == NONE) return work(b.then, new Names(b.name, f, n));
                }
                return nothing();
            }
        }
    }

    private static Value changed(Ex e, Value record) {
        if (record.sort != 2) return nothing();
        if (e.kind == '#') return record.fields.getOrDefault(e.label, nothing());
        Value v = new Value();
        v.fields.putAll(record.fields);
        Value f = v.fields.remove(e.label);
        if (e.kind == '~' && f != null) v.fields.put(e.other, f);
        return recordOf(v);
    }

    static Value recordOf(Value v) {
        v.sort = 2;
        for (int label : v.fields.keySet()) v.number |= 1 << label;
        return v;
    }

    /** How many signs a value has, told once for each value that is in it; below 0: it can't be written. */
    static long length(Value v, Map<Value, Long> known) {
        if (known.containsKey(v)) return known.get(v);
        long all = v.sort == 0 || v.sort == 1 ? 1 : v.sort == 2 ? 2 : -(1L << 60);
        if (v.sort == 3) all = 3 + length(v.inner, known);
        int n = 0;
        for (Value f : v.fields.values()) all += (n++ > 0 ? 3 : 2) + length(f, known);
        all = all < 0 ? -(1L << 60) : all;
        known.put(v, all);
        return all;
    }

    static String write(Value v) {
        if (v.sort == 0) return String.valueOf(v.number);
        if (v.sort == 1) return "\\";
        if (v.sort == 3) return "<" + (char) ('A' + v.number) + write(v.inner) + ">";
        StringBuilder s = new StringBuilder();
        for (Map.Entry<Integer, Value> f : v.fields.entrySet()) {
            if (s.length() > 0) s.append(',');
            s.append((char) ('A' + f.getKey())).append('=').append(write(f.getValue()));
        }
        return "{" + s + "}";
    }

    // ---- the calls

    static final class Told {
        final String text;
        final Ex ex;
        final Type type;
        Told(String text, Ex ex, Type type) { this.text = text; this.ex = ex; this.type = type; }
    }

    final List<Told> definitions = new ArrayList<>();
    Told it;
    Type answer;
    final List<Long> row = new ArrayList<>();
    final StringBuilder text = new StringBuilder();

    private void tell(long... numbers) {
        row.clear();
        for (long n : numbers) row.add(n);
    }

    private int told(Fault f) {
        tell(f.label);
        return -1000 * f.number - f.place;
    }

    private Told expressionOf(int w) {
        if (w == NONE) return it;
        return w >= 0 && w < definitions.size() ? definitions.get(w) : null;
    }

    private Type typeOf(int w) {
        if (w == -2) return answer;
        Told t = expressionOf(w);
        return t == null ? null : t.type;
    }

    private String takeText() {
        String s = text.toString();
        text.setLength(0);
        return s;
    }

    int sign(int v) {
        if (text.length() + 4 > 100) return NONE;
        for (int i = 24; i >= 0; i -= 8) text.append((char) (v >>> i & 255));
        return text.length();
    }

    boolean end(int n) {
        if (n < 0 || n > text.length()) return false;
        text.setLength(n);
        return true;
    }

    int infers() {
        String s = takeText();
        try {
            Ex e = new Parser(s).whole();
            Type t = find(e, null);
            it = new Told(s, e, t);
            return (int) size(t);
        } catch (Bad b) {
            return -1 - b.place;
        } catch (Fault f) {
            return told(f);
        }
    }

    int defines() {
        String s = takeText();
        try {
            Ex e = new Parser(s).whole();
            if (definitions.size() == 8) return -300;
            Type t = find(e, null);
            definitions.add(new Told(s, e, t));
            return definitions.size() - 1;
        } catch (Bad b) {
            return -1 - b.place;
        } catch (Fault f) {
            return told(f);
        }
    }

    int forgets(int k) {
        if (k < 0 || k > definitions.size()) return NONE;
        int n = definitions.size() - k;
        for (int i = definitions.size() - 1; i >= k; i--) {
            if (it != null && (free(it.ex, "") >> ('p' - 'a' + i) & 1) != 0) it = null;
            definitions.remove(i);
        }
        return n;
    }

    int size(int w) {
        Type t = typeOf(w);
        if (t == null) return NONE;
        List<Object> vars = variables(t);
        tell(vars.size(), vars.stream().filter(v -> v instanceof End).count());
        return (int) size(t);
    }

    int type(int w, int i) {
        Type t = typeOf(w);
        return t == null ? NONE : signOf(write(t, variables(t)), i);
    }

    private static int signOf(String s, int i) {
        if (i == NONE) return s.length();
        return i >= 0 && i < s.length() ? s.charAt(i) : NONE;
    }

    int lacks(int w, int k) {
        Type t = typeOf(w);
        if (t == null || k < 0) return NONE;
        List<Object> vars = variables(t);
        if (k >= vars.size()) return NONE;
        return vars.get(k) instanceof End e ? e.lacks : -2;
    }

    private void tellRow(Type t) {
        row.clear();
        if (t instanceof Rows r) {
            Row seen = see(r.row);
            long labels = 0;
            for (int label : seen.fields.keySet()) labels |= 1L << label;
            tell(labels, seen.end == null ? 0 : 1, seen.end == null ? 0 : seen.end.lacks);
        }
    }

    int sort(int w) {
        Type t = typeOf(w);
        if (t == null) return NONE;
        t = see(t);
        tellRow(t);
        return t instanceof Num ? 0 : t instanceof Fun ? 1 : t instanceof Var ? 4 : ((Rows) t).record ? 2 : 3;
    }

    int needs(int w) {
        Type t = typeOf(w);
        if (t == null) return NONE;
        if (!(see(t) instanceof Fun f) || !(see(f.from) instanceof Rows r)) return -2;
        tellRow(r);
        return r.record ? 0 : 1;
    }

    private int answers(Type t) {
        answer = fresh(t);
        return (int) size(answer);
    }

    int field(int w, int label) {
        Type t = typeOf(w);
        if (t == null || label < 0 || label > 7) return NONE;
        if (!(see(t) instanceof Rows r)) return -2;
        Type f = see(r.row).fields.get(label);
        return f == null ? -2 : answers(f);
    }

    int side(int w, int which) {
        Type t = typeOf(w);
        if (t == null || which < 0 || which > 1) return NONE;
        return see(t) instanceof Fun f ? answers(which == 0 ? f.from : f.to) : -2;
    }

    int closes(int w) {
        Type t = typeOf(w);
        if (t == null) return NONE;
        Type c = fresh(t);
        for (Object v : variables(c)) if (v instanceof End e) e.is = new Row();
        return answers(c);
    }

    int fits(int w) {
        String s = takeText();
        Type t = typeOf(w);
        if (t == null) return NONE;
        try {
            Parser p = new Parser(s);
            Type told = p.type();
            if (p.at < s.length()) throw new Bad(p.at);
            unify(fresh(t), told);
            return 1;
        } catch (Bad b) {
            return -1 - b.place;
        } catch (Fault f) {
            return 0;
        }
    }

    int above(int a, int b) {
        Type s = typeOf(a), t = typeOf(b);
        if (s == null || t == null) return NONE;
        s = fresh(s);
        t = fresh(t);
        tell(above(t, s, new LinkedHashMap<>()) ? 1 : 0);
        return above(s, t, new LinkedHashMap<>()) ? 1 : 0;
    }

    int meets(int a, int b) {
        Type s = typeOf(a), t = typeOf(b);
        if (s == null || t == null) return NONE;
        s = fresh(s);
        return unifiedAnswer(s, fresh(t), s);
    }

    int applies(int a, int b) {
        Type s = typeOf(a), t = typeOf(b);
        if (s == null || t == null) return NONE;
        Var v = new Var();
        return unifiedAnswer(fresh(s), new Fun(fresh(t), v), v);
    }

    private int unifiedAnswer(Type s, Type t, Type found) {
        try {
            unify(s, t, 0);
            if (size(found) > 60) throw fault(7, 0);
            return answers(found);
        } catch (Fault f) {
            return told(f);
        }
    }

    int part(int w, int place) {
        Told t = expressionOf(w);
        if (t == null) return NONE;
        for (Ex e : within(t.ex)) {
            if (e.place == place) return size(e.type) > 60 ? -7000 : answers(e.type);
        }
        return -2;
    }

    private Value valueOf(Told t) {
        stepsDone = 0;
        try {
            return work(t.ex, null);
        } catch (TooMany e) {
            return null;
        }
    }

    int steps(int w) {
        Told t = expressionOf(w);
        if (t == null) return NONE;
        Value v = valueOf(t);
        if (v == null) return -2;
        tell(v.sort, v.number);
        return stepsDone;
    }

    int value(int w, int i) {
        Told t = expressionOf(w);
        if (t == null || i < NONE) return NONE;
        Value v = valueOf(t);
        if (v == null) return -2;
        long length = length(v, new IdentityHashMap<>());
        return length < 0 ? NONE : i == NONE ? (int) length : signOf(write(v), i);
    }

    int taken(int w, int label) {
        Told t = expressionOf(w);
        if (t == null || label < 0 || label > 7) return NONE;
        Value v = valueOf(t);
        if (v == null) return -2;
        Value f = v.sort == 2 ? v.fields.get(label) : v.sort == 3 && v.number == label ? v.inner : null;
        if (f == null || f.sort == NONE) return -3;
        tell(f.number);
        return f.sort;
    }

    int parts(int w) {
        Told t = expressionOf(w);
        if (t == null) return NONE;
        long[] of = new long[11];
        for (Ex e : within(t.ex)) {
            int k = "0a\\($e{#&<?".indexOf(e.kind == '-' || e.kind == '~' ? '#' : e.kind);
            of[k]++;
        }
        tell(of);
        return within(t.ex).size();
    }

    int often(int w, int label) {
        Told t = expressionOf(w);
        if (t == null || label < 0 || label > 7) return NONE;
        long[] of = new long[4];
        for (Ex e : within(t.ex)) {
            if (e.kind == '{' && e.label == label) of[0]++;
            if ("#-~".indexOf(e.kind) >= 0 && e.label == label) of[1]++;
            if (e.kind == '~' && e.other == label) of[1]++;
            if (e.kind == '<' && e.label == label) of[2]++;
            for (Branch b : e.branches) if (b.label == label) of[3]++;
        }
        tell(of);
        return (int) t.text.chars().filter(c -> c == 'A' + label).count();
    }

    int free(int w) {
        Told t = expressionOf(w);
        if (t == null) return NONE;
        tell(depth(t.ex));
        return free(t.ex, "");
    }

    int count(int what) {
        return switch (what) {
            case 0 -> definitions.size();
            case 1 -> it == null ? 0 : 1;
            case 2 -> answer == null ? 0 : 1;
            case 3 -> row.size();
            case 4 -> text.length();
            default -> NONE;
        };
    }

    long row(int i) {
        if (i < 0 || i >= row.size()) throw new NoSuchElementException();
        return row.get(i);
    }
}
