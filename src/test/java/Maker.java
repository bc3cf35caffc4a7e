import java.util.Random;

/** Makes expressions and types at random: most of them sound, some of them spoilt. */
final class Maker {
    final Random random;
    private int room;
    private int definitions;

    Maker(long seed) {
        random = new Random(seed);
    }

    private static final int ANY = 0, NUMBER = 1, FUNCTION = 2, RECORD = 3, VARIANT = 4;

    String expression(int definitionsNow, int most) {
        definitions = definitionsNow;
        String s;
        do {
            room = 1 + random.nextInt(24);
            s = make(random.nextInt(5), "", 0);
        } while (s.length() > most);
        if (random.nextInt(12) == 0) {
            s = spoil(s, "\\.()$=;{}|#-~&<>?[]*:,I0aAHzp");
        }
        return s;
    }

    private static final String[] STRONG = {
        "\\x.{A=x|{B=x|{}}}", "\\f.\\x.(f(fx))", "\\x.\\y.\\f.{A=(fx)|{B=(fy)|{}}}", "\\x.\\y.1",
        "\\r.~AB-Cr", "\\v.?v[Ax.<Bx>;*y.y]", "\\r.{C=#Ar|-Br}", "\\r.&{A=1|{}}r", "\\r.&r{B=r|{}}",
        "\\x.{A=x|{B=x|{C=x|{D=x|{E=x|{F=x|{G=x|{H=x|{}}}}}}}}}", "\\x.<A<B<Cx>>>",
        "\\v.?v[Aa.a;Bb.b;Cc.{A=c|{}}]", "\\f.\\g.\\x.(f(gx))", "\\x.{A=x|{B={C=x|{}}|{D=x|{}}}}",
        "\\r.{A=#Br|{B=#Ar|-A-Br}}", "\\v.?v[*x.{A=x|{}}]", "\\x.x", "\\x.\\y.{A=x|{B=y|{}}}",
        "\\x.\\y.?<Ax>[Az.z;*o.y]", "\\x.\\y.\\z.1", "{A=1|{B=\\x.x|{}}}", "<A{B=1|{}}>",
        "\\v.?v[Aa.1;*o.?o[Bb.b;*q.2]]", "\\r.\\s.{A=#Ar|{B=#As|{}}}", "\\f.{A=(f1)|{B=(f2)|{}}}"};

    /**
     * Rows within a row of the same END: what is within one field may give the row another one, of a label that
     * is past by then, so that two rows are unified and yet differ.
     */
    String twisted() {
        String s;
        do {
            s = "\\r.\\s.{A=" + twist() + "|{B=" + twist() + "|{C=" + twist() + "|{}}}}";
        } while (s.length() > 100);
        return s;
    }

    private String twist() {
        switch (random.nextInt(3)) {
            case 0: return "#" + low() + "#" + low() + (random.nextBoolean() ? "#" + low() : "") + twistedName();
            case 1: return twistedRecord();
            default: return "?<A" + twistedRecord() + ">[Ax.x;By." + twistedRecord() + "]";
        }
    }

    /** A record of which the END is the one of a record within it, or one that has another field there. */
    String twistedRecord() {
        String n = twistedName();
        switch (random.nextInt(4)) {
            case 0: return n;
            case 1: return "{" + low() + "=" + n + "|" + n + "}";
            case 2: return "{" + low() + "={" + low() + "=" + n + "|" + n + "}|" + n + "}";
            default: return "{" + low() + "={" + low() + "=1|{}}|" + (random.nextBoolean() ? "{}" : n) + "}";
        }
    }

    private char low() {
        return (char) ('A' + random.nextInt(4));
    }

    private String twistedName() {
        return random.nextBoolean() ? "r" : "s";
    }

    /** Definitions p .. t by which the types of two rows that differ become one. */
    static final String[] LIARS = {
        "\\x.\\y.?<Ax>[Az.z;Bz.y]", "\\x.\\y.?<By>[Az.x;Bz.z]",
        // Of {D={A=..|{}}|{}} it is {}, by its type {A:..}.
        "\\e.((q#De)-De)",
        "\\x.$u=\\w.((px){D={A=w|{B=w|{}}}|{}});x",
        // Of {D=x|x}, x a record of A and B, it is x, by its type {}.
        "\\e.$u=\\w.((p#De)-De);-D(se)"};

    /** With the definitions LIARS: an expression whose value may have other fields than its type. */
    String lying() {
        String s;
        do {
            s = random.nextBoolean() ? claiming() : hiding();
            int n = random.nextInt(6);
            for (int i = 0; i < n; i++) {
                s = around(s);
            }
        } while (s.length() > 100);
        return s;
    }

    private String claiming() {
        String all = "{A=" + little() + (random.nextBoolean() ? "|{}}" : "|{B=" + little() + "|{}}}");
        switch (random.nextInt(4)) {
            case 0: return "(r{D=" + all + "|{B=" + little() + "|{}}})";
            case 1: return "$f=\\x.(r{D=" + all + "|x});(f{})";
            default: return "(r{D=" + all + "|{}})";
        }
    }

    private String hiding() {
        String v = little(), w = random.nextBoolean() ? v : little();
        return "$x={A=" + v + "|{B=" + w + "|{}}};(t{D=x|x})";
    }

    private String little() {
        switch (random.nextInt(7)) {
            case 0: return "\\x.x";
            case 1: return "<A1>";
            case 2: return "{A=1|{}}";
            case 3: return "{}";
            case 4: return "{B=2|{}}";
            default: return String.valueOf(random.nextInt(10));
        }
    }

    private String around(String s) {
        char a = (char) ('A' + random.nextInt(2)), b = a == 'A' ? 'B' : 'A';
        switch (random.nextInt(16)) {
            case 0: case 1: return "#" + a + s;
            case 2: return "-" + a + s;
            case 3: return "~" + a + b + s;
            case 4: return "~" + a + "C" + s;
            case 5: return "{" + a + "=" + little() + "|" + s + "}";
            case 6: return "{C=" + s + "|{}}";
            case 7: return "#C{C=" + little() + "|{" + a + "=" + s + "|{}}}";
            case 8: return "&{" + a + "=" + little() + "|{}}" + s;
            case 9: return "&" + s + "{" + a + "=" + little() + "|{}}";
            case 10: return "(" + (random.nextBoolean() ? "\\x.x" : "\\x.1") + s + ")";
            case 11: return "(" + s + little() + ")";
            case 12: return "?" + s + (random.nextBoolean() ? "[Ax.x;*y.1]" : "[*y.y]");
            case 13: return "$y=" + s + (random.nextBoolean() ? ";{C=y|{}}" : ";{A=y|{B=y|{}}}");
            case 14: return "$x=" + s + ";{D=" + s.length() % 10 + "|{}}";
            default: return "<A" + s + ">";
        }
    }

    /** Takes many fields of a record, or of records within it: its type has many variables, and one END for each record. */
    String great() {
        StringBuilder s = new StringBuilder();
        switch (random.nextInt(6)) {
            case 0: return "\\r." + takes("r", 13) + (random.nextBoolean() ? "r" : "1");
            case 1: return "\\r.\\s." + takes("r", 6) + takes("s", 6) + "?<Ar>[Ax.x;Bx.s]";
            case 2: return "\\v.?v[Ax." + takes("x", 5) + "<Bx>;*o.$g=\\y.o;?(g1)[*z.(g{})]]";
            case 3: {
                int n = 1 + random.nextInt(30);
                return "\\a.".repeat(n) + (random.nextBoolean() ? "a" : "1");
            }
            case 4: {
                int first = random.nextInt(8), n = 1 + random.nextInt(8);
                for (int i = 0; i < n; i++) {
                    s.insert(0, "{" + (char) ('A' + (first + i) % 8) + "=" + "pqrst12".charAt(random.nextInt(7)) + "|");
                }
                return s + (random.nextInt(3) > 0 ? "{}" : "p") + "}".repeat(n);
            }
            default: {
                int n = 1 + random.nextInt(8);
                for (int i = 0; i < n; i++) {
                    s.append(i == 0 ? "" : ";").append((char) ('A' + i)).append("x.").append(random.nextBoolean() ? "x" : "<Hx>");
                }
                return "\\v.?v[" + s + (random.nextBoolean() ? ";*y.y]" : "]");
            }
        }
    }

    /** Some fields of a name are taken, of those within them, too, or it is given on to a definition. */
    private String takes(String name, int most) {
        StringBuilder s = new StringBuilder();
        int n = random.nextInt(most + 1);
        for (int i = 0; i < n && s.length() < 7 * most - 10; i++) {
            String path = "#" + (char) ('A' + random.nextInt(8)) + (random.nextBoolean() ? "#" + (char) ('A' + random.nextInt(8)) : "");
            s.append("$x=").append(random.nextInt(4) == 0 ? "(p" + path + name + ")" : path + name).append(';');
        }
        return s.toString();
    }

    /** Definitions with which a record of records can be as great as a type can be. */
    static final String[] HUGE = {"\\x.x", "\\r.$x=#Ar;$x=#Br;$x=#Cr;$x=#Dr;$x=#Er;$x=#Fr;$x=#Gr;$x=#Hr;1",
        "\\s.$x=(q#As);$x=(q#Bs);$x=(q#Cs);$x=(q#Ds);$x=(q#Es);1"};

    /** With the definitions HUGE: the NAME at place 19 has a type of SIZE 52 to 60 and more. */
    String huge() {
        StringBuilder more = new StringBuilder();
        int n = random.nextInt(9);
        for (int i = 0; i < n; i++) {
            int of = random.nextInt(6);
            more.append("$x=#").append(of < 2 ? "GH".charAt(of) : (char) ('A' + random.nextInt(8))).append(of < 2 ? "" : "#F").append("s;");
        }
        return "?<A1>[Ay.1;Bs.$x=(rs);" + more + "1]";
    }

    /** A definition that makes much of little. */
    String strong() {
        return STRONG[random.nextInt(STRONG.length)];
    }

    static final String[] HARD = {
        "\\x.{A=x|{B=x|{C=x|{D=x|{E=x|{F=x|{G=x|{H=x|{}}}}}}}}}", "\\x.\\y.\\f.{A=(fx)|{B=(fy)|{}}}",
        "\\x.\\y.1", "\\f.\\x.(f(fx))", "\\x.{A=x|{B=x|{}}}", "\\x.x", "\\x.{A=x|x}"};

    /** With the definitions HARD: types that grow when they are not looked at, or many steps. */
    String hard() {
        if (random.nextInt(3) == 0) {
            return "((" + twices(0) + "u)1)";
        }
        StringBuilder s = new StringBuilder("\\a.\\b.\\c.\\d.");
        int n = 1 + random.nextInt(3);
        for (int i = 0; i < n; i++) {
            s.append(i < n - 1 ? "((r" : "").append(pair()).append(i < n - 1 ? ")" : "");
        }
        for (int i = 0; i < n - 1; i++) {
            s.append(')');
        }
        return s.toString();
    }

    private String pair() {
        String y = inner();
        if (random.nextInt(3) > 0) {
            y = "(" + (random.nextInt(3) == 0 ? 't' : 'p') + y + ")";
        }
        return "((q" + inner() + ")" + y + ")";
    }

    private String inner() {
        return String.valueOf((char) ('a' + random.nextInt(4)));
    }

    private String twices(int depth) {
        return depth > 3 || random.nextInt(3) == 0 ? "s" : "(" + twices(depth + 1) + twices(depth + 1) + ")";
    }

    /** Names of definitions and functions, one applied to another, within a few functions. */
    String calls(int definitionsNow, int most) {
        definitions = definitionsNow;
        String s;
        do {
            StringBuilder head = new StringBuilder();
            int n = random.nextInt(5);
            for (int i = 0; i < n; i++) {
                head.append(random.nextInt(8) == 0 ? "$" + (char) ('a' + i) + "=" + calls("abcd".substring(0, i), 0, 3) + ";"
                        : "\\" + (char) ('a' + i) + ".");
            }
            s = head + calls("abcd".substring(0, n), 0, 3 + random.nextInt(5));
        } while (s.length() > most);
        return s;
    }

    private String calls(String names, int depth, int deepest) {
        if (depth >= deepest || random.nextInt(4) == 0) {
            return names.length() + definitions == 0 ? "1" : random.nextInt(12) == 0 ? "1" : name(names);
        }
        return "(" + calls(names, depth + 1, deepest) + calls(names, depth + 1, deepest) + ")";
    }

    String spoil(String s, String signs) {
        int at = random.nextInt(s.length() + 1);
        char c = signs.charAt(random.nextInt(signs.length()));
        switch (random.nextInt(4)) {
            case 0: return s.substring(0, at);
            case 1: return at == s.length() ? s + c : s.substring(0, at) + c + s.substring(at + 1);
            case 2: return s.substring(0, at) + c + s.substring(at);
            default: return at == s.length() ? s : s.substring(0, at) + s.substring(at + 1);
        }
    }

    private char label() {
        int n = random.nextInt(10) == 0 ? 8 : 3;
        return (char) ('A' + random.nextInt(n));
    }

    private String make(int want, String names, int depth) {
        room--;
        if (room <= 0 || depth > 14) {
            return leaf(want, names);
        }
        if (names.length() + definitions > 0 && random.nextInt(4) == 0) {
            return name(names);
        }
        switch (random.nextInt(9)) {
            case 0: {
                char n = newName();
                return "$" + n + "=" + make(ANY, names, depth + 1) + ";" + make(want, names + n, depth + 1);
            }
            case 1: return "(" + make(FUNCTION, names, depth + 1) + make(ANY, names, depth + 1) + ")";
            case 2: return "#" + label() + make(RECORD, names, depth + 1);
            case 3: return choice(want, names, depth);
            default: return plain(want == ANY ? 1 + random.nextInt(4) : want, names, depth);
        }
    }

    private String plain(int want, String names, int depth) {
        switch (want) {
            case NUMBER: return leaf(NUMBER, names);
            case FUNCTION: {
                char n = newName();
                return "\\" + n + "." + make(ANY, names + n, depth + 1);
            }
            case RECORD: return record(names, depth);
            default: return "<" + label() + make(ANY, names, depth + 1) + ">";
        }
    }

    private String record(String names, int depth) {
        switch (random.nextInt(9)) {
            case 0: return "-" + label() + make(RECORD, names, depth + 1);
            case 1: {
                char a = label(), b = label();
                return "~" + a + (a == b ? (char) ('A' + (b - 'A' + 1) % 8) : b) + make(RECORD, names, depth + 1);
            }
            case 2: return "&" + make(RECORD, names, depth + 1) + make(RECORD, names, depth + 1);
            case 3: return "{}";
            case 4: {
                String both = leaf(RECORD, names);
                return "{" + label() + "=" + both + "|" + both + "}";
            }
            default:
                return "{" + label() + "=" + make(ANY, names, depth + 1) + "|" + make(RECORD, names, depth + 1) + "}";
        }
    }

    private String choice(int want, String names, int depth) {
        StringBuilder s = new StringBuilder("?" + make(VARIANT, names, depth + 1) + "[");
        int first = random.nextInt(3), n = random.nextInt(3);
        boolean others = n == 0 || random.nextBoolean();
        for (int i = 0; i < n; i++) {
            char x = newName();
            s.append(i == 0 ? "" : ";").append((char) ('A' + first + i)).append(x).append('.');
            s.append(make(want, names + x, depth + 1));
        }
        if (others) {
            char x = newName();
            s.append(n == 0 ? "*" : ";*").append(x).append('.').append(make(want, names + x, depth + 1));
        }
        return s.append(']').toString();
    }

    private String leaf(int want, String names) {
        if (names.length() + definitions > 0 && random.nextInt(3) > 0) {
            return name(names);
        }
        switch (want) {
            case FUNCTION: {
                char n = newName();
                return "\\" + n + "." + (random.nextBoolean() ? n : '1');
            }
            case RECORD: return "{}";
            case VARIANT: return "<" + label() + "1>";
            default: return String.valueOf(random.nextInt(10));
        }
    }

    private char newName() {
        return random.nextInt(12) == 0 ? (char) ('p' + random.nextInt(8)) : (char) ('a' + random.nextInt(5));
    }

    private String name(String names) {
        if (random.nextInt(60) == 0) {
            return String.valueOf((char) ('a' + random.nextInt(26)));
        }
        int i = random.nextInt(names.length() + definitions);
        return String.valueOf(i < names.length() ? names.charAt(i) : (char) ('p' + i - names.length()));
    }

    String type(int depth) {
        int kind = depth > 3 ? 0 : random.nextInt(4);
        switch (kind) {
            case 0: return "I";
            case 1: return "(" + type(depth + 1) + ">" + type(depth + 1) + ")";
            default: {
                StringBuilder s = new StringBuilder(kind == 2 ? "{" : "<");
                int labels = random.nextInt(1 << 3), from = random.nextInt(3);
                String between = "";
                for (int i = 0; i < 3; i++) {
                    int label = (from + i) % 3;
                    if ((labels >> label & 1) != 0) {
                        s.append(between).append((char) ('A' + label)).append(':').append(type(depth + 1));
                        between = ",";
                    }
                }
                return s.append(kind == 2 ? "}" : ">").toString();
            }
        }
    }
}
