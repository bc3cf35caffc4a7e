import java.util.ArrayList;
import java.util.List;
import java.util.Map;
import java.util.TreeMap;

/**
 * All expressions of few parts, over two names and two labels, against Model: what infers() answers and tells, the type,
 * LACKS, steps and value, and of the smaller ones the type of each part; and each two of the types of these, unified,
 * applied, held against one another.
 */
public final class SmallTest {
    private static final String[] LEAVES = {"1", "x", "y", "{}"};
    private static final String[] ONE = {"\\x.!", "\\y.!", "#A!", "#B!", "-A!", "-B!", "~AB!", "~BA!", "<A!>", "<B!>"};
    private static final String[] TWO = {"(!!)", "$x=!;!", "{A=!|!}", "{B=!|!}", "&!!", "?![Ax.!]", "?![*y.!]"};
    private static final String[] THREE = {"?![Ax.!;*y.!]", "?![Ax.!;Bx.!]"};
    // What stands around each of them, so that its names are bound by a function, a branch, a $.
    private static final String[] AROUND = {"!", "\\x.\\y.!", "\\y.$x={A=y|{}};!", "\\y.?y[Ax.!;*y.!]"};

    private static final List<List<String>> made = new ArrayList<>();
    // A text for each type, as it is written, with the LACKS of its variables.
    private static final Map<String, String> ofType = new TreeMap<>();
    private static int wrong = 0;
    private static int all = 0;
    private static int found = 0;

    public static void main(String[] args) {
        int most = args.length > 0 ? Integer.parseInt(args[0]) : 4;
        made.add(List.of());
        for (int parts = 1; parts <= most; parts++) {
            made.add(make(parts));
            for (String text : made.get(parts)) {
                for (int i = 0; i < AROUND.length && wrong < 5; i++) {
                    compare(AROUND[i].replace("!", text), parts < most);
                }
            }
        }
        pairs(new ArrayList<>(ofType.values()));
        System.out.println(all + " texts, " + found + " with a type, of " + ofType.size() + " kept types each two");
        System.out.println(wrong == 0 ? "all answers are as due" : wrong + " answers are not as due");
        if (wrong != 0 || found < 1000) {
            System.exit(1);
        }
    }

    private static List<String> make(int parts) {
        List<String> texts = new ArrayList<>();
        if (parts == 1) {
            return List.of(LEAVES);
        }
        for (String around : ONE) {
            for (String inner : made.get(parts - 1)) {
                texts.add(around.replace("!", inner));
            }
        }
        for (int first = 1; first < parts - 1; first++) {
            for (String around : TWO) {
                for (String one : made.get(first)) {
                    for (String two : made.get(parts - 1 - first)) {
                        texts.add(fill(around, one, two));
                    }
                }
            }
            for (int second = 1; first + second < parts - 1; second++) {
                addThree(texts, first, second, parts - 1 - first - second);
            }
        }
        return texts;
    }

    private static void addThree(List<String> texts, int first, int second, int third) {
        for (String around : THREE) {
            for (String one : made.get(first)) {
                for (String two : made.get(second)) {
                    for (String three : made.get(third)) {
                        texts.add(fill(around, one, two, three));
                    }
                }
            }
        }
    }

    private static String fill(String around, String... parts) {
        StringBuilder s = new StringBuilder();
        int next = 0;
        for (char c : around.toCharArray()) {
            if (c == '!') {
                s.append(parts[next]);
                next++;
            } else {
                s.append(c);
            }
        }
        return s.toString();
    }

    private static void compare(String text, boolean each) {
        if (text.length() > 100) {
            return;
        }
        all++;
        RowTypes x = new RowTypes();
        Model m = new Model();
        tell(text, x, m);
        int due = m.infers();
        due(text, "infers", x.infers(), due);
        rows(text, "infers", x, m);
        if (due <= 0) {
            return;
        }
        found++;
        if (each) {
            keep(text, x);
        }
        types(text, -1, x, m);
        due(text, "steps", x.steps(-1), m.steps(-1));
        rows(text, "steps", x, m);
        int signs = m.value(-1, -1);
        due(text, "value", x.value(-1, -1), signs);
        for (int i = 0; i < signs; i++) {
            due(text, "value " + i, x.value(-1, i), m.value(-1, i));
        }
        for (int place = 0; each && place < text.length(); place++) {
            due(text, "part " + place, x.part(-1, place), m.part(-1, place));
            types(text, -2, x, m);
        }
    }

    private static void types(String text, int w, RowTypes x, Model m) {
        int signs = m.type(w, -1);
        for (int i = -1; i < signs; i++) {
            due(text, "type " + i, x.type(w, i), m.type(w, i));
        }
        int variables = 0;
        if (signs > 0) {
            due(text, "size", x.size(w), m.size(w));
            rows(text, "size", x, m);
            variables = (int) m.row(0);
        }
        for (int k = 0; k < variables; k++) {
            due(text, "lacks " + k, x.lacks(w, k), m.lacks(w, k));
        }
    }

    /** Keeps a text for each type that comes, as long as there are few signs in it. */
    private static void keep(String text, RowTypes x) {
        StringBuilder type = new StringBuilder(Talk.type(x, -1));
        for (int k = 0; x.lacks(-1, k) != -1; k++) {
            type.append(' ').append(x.lacks(-1, k));
        }
        if (text.length() <= 15) {
            ofType.putIfAbsent(type.toString(), text);
        }
    }

    private static void pairs(List<String> texts) {
        for (String a : texts) {
            for (String b : texts) {
                if (wrong < 5) {
                    pair(a, b);
                }
            }
        }
    }

    private static void pair(String a, String b) {
        RowTypes x = new RowTypes();
        Model m = new Model();
        for (String text : new String[] {a, b}) {
            tell(text, x, m);
            due(text, "defines", x.defines(), m.defines());
        }
        String both = a + " and " + b;
        due(both, "above", x.above(0, 1), m.above(0, 1));
        rows(both, "above", x, m);
        due(both, "meets", x.meets(0, 1), m.meets(0, 1));
        rows(both, "meets", x, m);
        types(both, -2, x, m);
        due(both, "applies", x.applies(0, 1), m.applies(0, 1));
        rows(both, "applies", x, m);
        types(both, -2, x, m);
    }

    private static void tell(String text, RowTypes x, Model m) {
        Talk.tell(x, text);
        for (int i = 0; i < text.length(); i += 4) {
            m.sign(Talk.four(text, i));
        }
        m.end(text.length());
    }

    private static void rows(String text, String call, RowTypes x, Model m) {
        due(text, call + ", the ROW", x.count(3), m.count(3));
        for (int i = 0; i < Math.min(m.count(3), x.count(3)); i++) {
            due(text, call + ", row " + i, x.row(i), m.row(i));
        }
    }

    private static void due(String text, String call, long got, long want) {
        if (got != want) {
            wrong++;
            System.out.println(text + ": " + call + " answered " + got + ", due is " + want);
        }
    }
}
