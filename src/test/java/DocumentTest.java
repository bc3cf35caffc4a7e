import java.io.IOException;
import java.lang.reflect.Method;
import java.lang.reflect.Modifier;
import java.nio.file.Files;
import java.nio.file.Path;
import java.util.Arrays;
import java.util.NoSuchElementException;

/**
 * The document from its first line to its last one: each sentence is named in the order in which it stands, with what
 * is due by it. A word of the document that is not gone through is a fault of this test.
 */
public final class DocumentTest {
    private static final int NONE = Asked.NONE;
    private static final int IT = Asked.IT;
    private static final int ANSWER = Asked.ANSWER;

    public static void main(String[] args) throws IOException {
        whatItIs();
        calls512();
        face();
        DocumentTerms.go();
        told();
        refused();
        heads();
        DocumentPromises.go();
        notPromised();
        Due.whole();
        Due.end();
    }

    private static void whatItIs() {
        Due.next("# RowTypes ## What it is Types of records and variants by rows: expressions told as texts, with fields that are "
                + "added, taken, left out, renamed, records put together, variants with branches and what is left for the others;");
        Asked.has("\\r.{A=1|r}", "({|a}>{A:I|a})");
        Asked.has("\\r.#Ar", "({A:a|b}>a)");
        Asked.has("\\r.-Ar", "({A:a|b}>{|b})");
        Asked.has("\\r.~ABr", "({A:a|b}>{B:a|b})");
        Asked.has("\\r.&r{A=1|{}}", "({|a}>{A:I|a})");
        Asked.has("\\v.?v[Ax.1;*y.2]", "(<A:a|b>>I)");
        Due.next("the most general type of each is found, with row variables that lack labels, or why there is none, by the first "
                + "field that clashes;");
        Due.due("lacks", Asked.it("\\r.~ABr").lacks(IT, 1), 3);
        Asked.fault("{B=1|{C=#C{}|{B=1|{}}}}", 3, 8, 2);
        Asked.fault("{B=1|{C=3|{B=1|{}}}}", 4, 0, 1);
        Due.next("definitions used again and again, types written out, held against told ones and one another, unified, applied, "
                + "of each part of an expression;");
        RowTypes x = Asked.it("{A=(p1)|{B=(p{})|{}}}", "\\x.x");
        Due.due("written", Talk.type(x, IT), "{A:I,B:{}}");
        Due.due("held against a told one", Talk.fits(x, IT, "{B:{},A:I}"), 1);
        Due.due("held against one another", x.above(0, IT), 0);
        Due.due("unified", x.meets(0, 0), 3);
        Due.due("applied", x.applies(0, IT), 3);
        Due.due("of a part", x.part(IT, 3), 1);
        Due.next("what a function needs, what it must not be given; values worked out.");
        x = Asked.it("\\r.~ABr");
        Due.due("needs", x.needs(IT), 0);
        Due.due("A; not A again and not B", Talk.row(x), "1 1 3");
        Asked.hasValue("#A{A=7|{}}", "7");
    }

    private static void calls512() {
        Due.next("An object is used for at most 512 calls after it has been made; what later calls answer is free.");
        RowTypes x = new RowTypes();
        int calls = 0;
        String text = "$f=\\x.{A=x|{}};(f(f1))";
        while (calls + 6 + 3 <= 512) {
            // Six calls for twenty-two signs and where they end, then three.
            for (int i = 0; i < text.length(); i += 4) {
                x.sign(Talk.four(text, i));
                calls++;
            }
            Due.due("call " + calls, x.end(text.length()), true);
            Due.due("call " + calls, x.infers(), 3);
            Due.due("call " + calls, x.steps(IT), 13);
            calls += 3;
        }
        while (calls < 512) {
            Due.due("call " + calls, x.value(IT, 6 + calls % 2), calls % 2 == 0 ? '1' : '}');
            calls++;
        }
    }

    private static void face() throws IOException {
        String block = Files.readString(Path.of("../shared/DOC.md"));
        block = block.substring(block.indexOf("```java"), block.indexOf("```", block.indexOf("```java") + 3) + 3);
        Due.next("## The public face " + block.replaceAll("\\s+", " "));
        int calls = 0;
        for (String line : block.split("\n")) {
            String said = line.trim().replaceAll(";$", "");
            if (said.startsWith("public") && said.contains(")") && !said.equals("public RowTypes()")) {
                calls++;
                String name = said.replaceAll("\\(.*", "").replaceAll(".* ", "");
                Due.due("how often " + name, Arrays.stream(RowTypes.class.getDeclaredMethods())
                        .filter(m -> m.getName().equals(name)).count(), 1);
                for (Method m : RowTypes.class.getDeclaredMethods()) {
                    if (m.getName().equals(name)) {
                        Due.due("face", m.toGenericString(), said.replaceAll("(int|long) \\w+(?=[,)])", "$1")
                                .replace(", ", ",").replace(name + "(", "RowTypes." + name + "(")
                                .replace("throws ", "throws java.util."));
                    }
                }
            }
        }
        Due.due("public methods", Arrays.stream(RowTypes.class.getDeclaredMethods())
                .filter(m -> Modifier.isPublic(m.getModifiers())).count(), calls);
        Due.due("final", Modifier.isFinal(RowTypes.class.getModifiers()) && Modifier.isPublic(RowTypes.class.getModifiers()), true);
        Due.due("constructors", RowTypes.class.getConstructors().length, 1);
        Due.due("NONE", RowTypes.NONE, -1);
        Due.due("public constants", RowTypes.class.getFields().length, 1);
    }

    // ---- the second term

    private static void told() {
        Due.next("``` 2. ROW of numbers: told last by a call that says so.");
        RowTypes x = Asked.it("{A=1|{}}");
        Due.due("none at first", x.count(3), 0);
        x.sort(IT);
        Due.due("told by sort()", Talk.row(x), "1 0 0");
        x.type(IT, 0);
        x.field(IT, 0);
        x.value(IT, 0);
        x.lacks(IT, 0);
        Talk.fits(x, IT, "{A:I}");
        Talk.infers(x, "{A=1|{}}");
        Talk.defines(x, "1");
        x.forgets(0);
        Due.due("not told by others", Talk.row(x), "1 0 0");
        x.free(IT);
        Due.due("told last", Talk.row(x), "2");
        Due.next("THE ANSWER: a TYPE (at first none).");
        x = Asked.it("\\x.x");
        Due.due("none", x.count(2), 0);
        Due.due("none", x.size(ANSWER), NONE);
        x.side(IT, 1);
        Due.due("one", x.size(ANSWER), 1);
        Due.next("w: an EXPRESSION with its TYPE: NONE: IT (at first none), 0 ..: a DEFINITION, -2: THE ANSWER (no EXPRESSION).");
        x = Asked.with("1", "{}");
        Due.due("no IT", x.size(IT), NONE);
        Talk.infers(x, "\\x.x");
        x.side(IT, 0);
        String[] types = {"a", "(a>a)", "I", "{}"};
        for (int w = -2; w < 2; w++) {
            Due.due("type of " + w, Talk.type(x, w), types[w + 2]);
            Due.due("text of " + w, x.parts(w) == NONE, w == ANSWER);
        }
        Due.due("no third definition", x.size(2), NONE);
        Due.due("none below", x.size(-3), NONE);
        asking();
    }

    private static void asking() {
        Due.next("Calls that ask change nothing but the ROW, and, if they say so, THE ANSWER.");
        RowTypes x = Asked.it("(p{A=2|q})", "\\r.#Ar", "{B=\\x.x|{}}");
        String before = state(x);
        for (int w = -3; w < 4; w++) {
            x.size(w);
            x.type(w, 0);
            x.lacks(w, 0);
            x.sort(w);
            x.needs(w);
            x.above(w, 0);
            x.steps(w);
            x.value(w, 0);
            x.taken(w, 1);
            x.parts(w);
            x.often(w, 0);
            x.free(w);
            x.count(w);
            Due.due("no ANSWER by " + w, x.count(2), 0);
        }
        Due.due("as it was", state(x), before);
        for (int w = -3; w < 4; w++) {
            x.field(w, 1);
            x.side(w, 0);
            x.closes(w);
            x.meets(w, w);
            x.applies(0, w);
            x.part(w, 0);
        }
        Due.due("as it was", state(x), before);
    }

    private static String state(RowTypes x) {
        StringBuilder s = new StringBuilder();
        for (int w = -1; w < 3; w++) {
            s.append(Talk.type(x, w)).append(' ').append(Talk.value(x, w)).append(' ');
        }
        return s + "" + x.count(0) + x.count(1) + x.count(4);
    }

    private static void refused() {
        Due.next("```text Refused calls answer NONE, or false, and change nothing but THE TEXT, which a call that reads it empties.");
        RowTypes x = Asked.it("{A=1|{}}");
        x.sort(IT);
        x.sign(0x26262626);
        Due.due("end", x.end(5), false);
        Due.due("size", x.size(0), NONE);
        Due.due("forgets", x.forgets(1), NONE);
        Due.due("field", x.field(IT, 8), NONE);
        Due.due("THE TEXT stays", x.count(4), 4);
        Due.due("fits", x.fits(3), NONE);
        Due.due("THE TEXT is empty", x.count(4), 0);
        x.sign(0x26262626);
        Due.due("infers", x.infers(), -5);
        Due.due("THE TEXT is empty", x.count(4), 0);
        x.sign(0x29262626);
        Due.due("defines", x.defines(), NONE);
        Due.due("THE TEXT is empty", x.count(4), 0);
        Due.due("the ROW stays", Talk.row(x), "1 0 0");
        Due.due("IT stays", Talk.type(x, IT), "{A:I}");
        Due.next("NONE comes ahead of other answers below 0, these as they are told; the ROW, THE ANSWER stay with these, "
                + "but where it is said.");
        x = Asked.it("1", "\\f.\\x.(f(fx))", "(((((pp)p)p)\\x.x)1)");
        x.closes(0);
        x.free(0);
        Due.due("no LABEL ahead of no record", x.field(IT, 8), NONE);
        Due.due("no which ahead of no function", x.side(IT, 2), NONE);
        Due.due("no LABEL ahead of more than 500", x.taken(1, 8), NONE);
        Due.due("no w ahead of a sign", Talk.fits(x, 2, "!"), NONE);
        Due.due("no w ahead of no place", x.part(2, -1), NONE);
        Due.due("-2", x.field(IT, 0), -2);
        Due.due("-2", x.side(IT, 0), -2);
        Due.due("-2", x.needs(IT), -2);
        Due.due("-2", x.lacks(0, 0), -2);
        Due.due("-2", x.part(IT, 1), -2);
        Due.due("-2", x.steps(1), -2);
        Due.due("-2", x.value(1, 0), -2);
        Due.due("-2 ahead of -3", x.taken(1, 0), -2);
        Due.due("-3", x.taken(IT, 0), -3);
        Due.due("the ROW stays", Talk.row(x), "5");
        Due.due("THE ANSWER stays", Talk.type(x, ANSWER), "((a>a)>(a>a))");
        faultsTold();
    }

    private static void faultsTold() {
        Due.next("A FAULT of TYPES is answered by -1000 times its number, less its PLACE (0, where that is not of a text);");
        RowTypes x = Asked.it("1", "{A=1|{}}", "\\r.#Gr", "\\r.{G=1|r}", "\\x.<Ax>", "\\x.x");
        Due.due("the place", Talk.infers(x, "{A=1|{B=2|#C{}}}"), -3010);
        Due.due("the greatest place", Talk.infers(x, "\\x.".repeat(27) + "{A=\\x.x|{B=\\x.x|u}}"), -1097);
        Due.due("not of a text", x.meets(0, 1), -2000);
        Due.due("not of a text", x.applies(1, 0), -3000);
        Due.next("the ROW then: the LABEL of 3, 4 (NONE with others).");
        Due.due("3", Talk.row(x), "6");
        Due.due("4", x.meets(1, 2), -4000);
        Due.due("4", Talk.row(x), "6");
        Due.due("2", x.meets(0, 1), -2000);
        Due.due("2", Talk.row(x), "-1");
        x.sort(0);
        Due.due("5", x.meets(3, 4), -5000);
        Due.due("5", Talk.row(x), "-1");
        x.sort(0);
        Due.due("1", Talk.infers(x, "z"), -1000);
        Due.due("1", Talk.row(x), "-1");
        x.sort(0);
        Due.due("6", Talk.infers(x, "\\r.&rr"), -6003);
        Due.due("6", Talk.row(x), "-1");
        x.sort(0);
        Due.due("7", Talk.infers(x, "\\x.".repeat(30) + "1"), -7000);
        Due.due("7", Talk.row(x), "-1");
        Due.due("3 in defines", Talk.defines(x, "{A=1|-H{}}"), -3005);
        Due.due("3 in defines", Talk.row(x), "7");
        Due.due("4 in infers", Talk.infers(x, "{B=1|{B=1|{}}}"), -4000);
        Due.due("4 in infers", Talk.row(x), "1");
    }

    /** What the interface says ahead of calls stands ahead of the first of them in the class's text. */
    private static void heads() throws IOException {
        String source = Files.readString(Path.of("src/main/java/RowTypes.java"));
        String[][] calls = {
            {"expressions", "sign", "end", "infers", "defines", "forgets"},
            {"types", "size", "type", "lacks", "sort", "needs", "field", "side", "closes", "fits", "above", "meets", "applies", "part"},
            {"values", "steps", "value", "taken"},
            {"texts of expressions", "parts", "often", "free", "count", "row"}};
        int at = 0;
        for (String[] one : calls) {
            String[] names = Arrays.copyOfRange(one, 1, one.length);
            Due.next((at == 0 ? "``` " : "") + "Ahead of the calls `" + String.join("`, `", names) + "` the interface says: ---- "
                    + one[0] + ".");
            int head = source.indexOf("// ---- " + one[0], at);
            Due.due("the head " + one[0], head >= at, true);
            at = Math.max(at, head);
            for (String name : names) {
                int call = source.indexOf((name.equals("end") ? "boolean " : name.equals("row") ? "long " : "int ") + name + "(", at);
                Due.due("the call " + name, call >= at, true);
                at = Math.max(at, call);
            }
        }
    }

    private static void notPromised() {
        Due.next("## Not promised How the state is held inside the object is free, as are the speed of each call, the text of toString "
                + "and the behaviour of equals and hashCode. Use of one object from several threads at once is not promised to be safe. "
                + "Nothing is promised beyond the answers and state changes described above, and nothing about an object after its "
                + "512th call.");
        // Behind its 512th call nothing but what a call may throw comes out of an object.
        RowTypes x = Asked.it("{A=1|{}}");
        for (int i = 0; i < 2000; i++) {
            x.sign(i);
            x.infers();
            x.part(IT, i % 9);
            try {
                x.row(i % 4);
            } catch (NoSuchElementException e) {
                x.count(3);
            }
        }
    }
}
