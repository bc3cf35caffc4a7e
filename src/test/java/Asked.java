import java.util.NoSuchElementException;

/** Objects made of texts, and what is due of one text: for tests that go by the document's words. */
final class Asked {
    static final int NONE = RowTypes.NONE;
    static final int IT = -1;
    static final int ANSWER = -2;
    static final int LEAST = Integer.MIN_VALUE;
    static final int MOST = Integer.MAX_VALUE;

    private Asked() { }

    static RowTypes with(String... definitions) {
        RowTypes x = new RowTypes();
        for (int i = 0; i < definitions.length; i++) {
            Due.due("defines " + definitions[i], Talk.defines(x, definitions[i]), i);
        }
        return x;
    }

    static RowTypes it(String text, String... definitions) {
        RowTypes x = with(definitions);
        Due.due("infers " + text + " has a type", Talk.infers(x, text) > 0, true);
        return x;
    }

    static void has(String text, String type, String... definitions) {
        Due.due("the type of " + text, Talk.type(it(text, definitions), IT), type);
    }

    static void hasValue(String text, String value, String... definitions) {
        Due.due("the value of " + text, Talk.value(it(text, definitions), IT), value);
    }

    static void hasSteps(String text, int steps, String... definitions) {
        Due.due("the steps of " + text, it(text, definitions).steps(IT), steps);
    }

    /** The sign at a place can't stand there, for infers() and defines(). */
    static void bad(String text, int place) {
        RowTypes x = new RowTypes();
        Due.due("infers " + text, Talk.infers(x, text), -1 - place);
        Due.due("defines " + text, Talk.defines(x, text), -1 - place);
        Due.due("nothing by " + text, x.count(0) + x.count(1) + x.count(2) + x.count(3) + x.count(4), 0);
    }

    /** A fault, by infers() and defines(), with the ROW that it tells. */
    static void fault(String text, int number, int place, int label, String... definitions) {
        RowTypes x = with(definitions);
        Due.due("infers " + text, Talk.infers(x, text), -1000 * number - place);
        Due.due("the ROW of " + text, Talk.row(x), String.valueOf(label));
        x.size(0);
        Due.due("defines " + text, Talk.defines(x, text), -1000 * number - place);
        Due.due("the ROW of " + text, Talk.row(x), String.valueOf(label));
        Due.due("neither by " + text, x.count(0) + x.count(1), definitions.length);
    }

    /** Two types that meet: the first one's, the other one's, and what has become of them. */
    static void meet(String a, String b, String type) {
        RowTypes x = with(a, b);
        Due.due(a + " meets " + b, x.meets(0, 1) > 0, true);
        Due.due("what has become of " + a + " and " + b, Talk.type(x, ANSWER), type);
    }

    static void meetFault(String a, String b, int number, int label) {
        RowTypes x = with(a, b);
        Due.due(a + " meets " + b, x.meets(0, 1), -1000 * number);
        Due.due("the ROW of " + a + " meets " + b, Talk.row(x), String.valueOf(label));
        Due.due("no ANSWER", x.count(2), 0);
    }

    static boolean noSuch(RowTypes x, int i) {
        try {
            x.row(i);
            return false;
        } catch (NoSuchElementException e) {
            return true;
        }
    }
}
