import java.io.IOException;
import java.lang.reflect.Constructor;
import java.lang.reflect.Field;
import java.lang.reflect.Method;
import java.lang.reflect.Modifier;
import java.nio.file.Files;
import java.nio.file.Path;
import java.util.ArrayList;
import java.util.List;
import java.util.Set;
import java.util.TreeSet;
import java.util.regex.Matcher;
import java.util.regex.Pattern;

/** The face, and those rules of LANGUAGE.md that can be seen from the outside or in the text. */
public final class LanguageTest {
    private static final String[] FACE = {
        "int sign(int)", "boolean end(int)", "int infers()", "int defines()", "int forgets(int)", "int size(int)",
        "int type(int,int)", "int lacks(int,int)", "int sort(int)", "int needs(int)", "int field(int,int)",
        "int side(int,int)", "int closes(int)", "int fits(int)", "int above(int,int)", "int meets(int,int)",
        "int applies(int,int)", "int part(int,int)", "int steps(int)", "int value(int,int)", "int taken(int,int)",
        "int parts(int)", "int often(int,int)", "int free(int)", "int count(int)", "long row(int)"};
    private static int wrong = 0;

    public static void main(String[] args) throws IOException {
        face();
        classes();
        text(Files.readString(Path.of("src/main/java/RowTypes.java")));
        System.out.println(wrong == 0 ? "all rules are kept" : wrong + " rules are not kept");
        if (wrong != 0) {
            System.exit(1);
        }
    }

    private static void must(boolean so, String what) {
        if (!so) {
            wrong++;
            System.out.println(what);
        }
    }

    private static void face() {
        Set<String> seen = new TreeSet<>();
        for (Method m : RowTypes.class.getDeclaredMethods()) {
            if (!Modifier.isPrivate(m.getModifiers()) && !m.isSynthetic()) {
                must(Modifier.isPublic(m.getModifiers()), "neither public nor private: " + m);
                StringBuilder s = new StringBuilder(m.getReturnType() + " " + m.getName() + "(");
                for (Class<?> c : m.getParameterTypes()) {
                    s.append(s.charAt(s.length() - 1) == '(' ? "" : ",").append(c);
                }
                seen.add(s.append(')').toString());
            }
        }
        must(seen.equals(new TreeSet<>(List.of(FACE))), "the face is " + seen);
        for (Field f : RowTypes.class.getDeclaredFields()) {
            boolean none = f.getName().equals("NONE");
            must(none == Modifier.isPublic(f.getModifiers()), "field " + f);
            must(none || Modifier.isPrivate(f.getModifiers()), "field " + f);
        }
        must(RowTypes.NONE == -1, "NONE");
        must(Modifier.isFinal(RowTypes.class.getModifiers()), "final");
        Constructor<?>[] made = RowTypes.class.getDeclaredConstructors();
        must(made.length == 1 && Modifier.isPublic(made[0].getModifiers()), "one public constructor");
    }

    private static void classes() {
        Set<String> names = new TreeSet<>();
        for (Method m : RowTypes.class.getDeclaredMethods()) {
            if (Modifier.isPublic(m.getModifiers())) {
                names.add(m.getName());
            }
        }
        List<Class<?>> all = new ArrayList<>(List.of(RowTypes.class.getDeclaredClasses()));
        must(all.size() <= 11, "more than twelve classes");
        for (Class<?> c : all) {
            must(Modifier.isStatic(c.getModifiers()), "not static: " + c);
            for (Method m : c.getDeclaredMethods()) {
                must(!names.contains(m.getName()), "the name of a call: " + m);
            }
        }
        all.add(RowTypes.class);
        for (Class<?> c : all) {
            int fields = 0;
            for (Field f : c.getDeclaredFields()) {
                boolean constant = Modifier.isStatic(f.getModifiers());
                must(!constant || Modifier.isFinal(f.getModifiers()), "a static that is not final: " + f);
                fields += constant ? 0 : 1;
            }
            must(fields <= 20, "more than twenty fields: " + c);
            for (Method m : c.getDeclaredMethods()) {
                must(m.getParameterCount() <= 7, "more than seven parameters: " + m);
            }
        }
    }

    private static void text(String source) {
        String code = source.replaceAll("(?s)/\\*.*?\\*/", "").replaceAll("//[^\n]*", "");
        String bare = code.replaceAll("\"[^\"\n]*\"", "\"\"").replaceAll("'(\\\\.|[^'\\\\])'", "''");
        for (String word : new String[] {"package", "try", "catch", "finally", "synchronized", "assert", "->", "::",
                "enum", "double", "float", "Object", "System\\.", "getClass", "hashCode", "toString", "\" *\\+", "\\+ *\""}) {
            boolean sign = !Character.isLetter(word.charAt(0)) || word.endsWith(".");
            Matcher m = Pattern.compile(sign ? word : "\\b" + word + "\\b").matcher(bare);
            must(!m.find(), "stands in the text: " + word);
        }
        Matcher imports = Pattern.compile("import ([\\w.]+);").matcher(code);
        while (imports.find()) {
            must(Set.of("java.util.Arrays", "java.util.NoSuchElementException").contains(imports.group(1)),
                    "import " + imports.group(1));
        }
        Matcher thrown = Pattern.compile("throw (?!new NoSuchElementException\\(\\);)").matcher(bare);
        must(!thrown.find(), "another throw");
        for (char c : source.toCharArray()) {
            must(c < 128, "a sign above 127");
        }
        lengths(source.split("\n"));
        loops(bare.split("\n"));
    }

    private static void lengths(String[] lines) {
        for (int i = 0; i < lines.length; i++) {
            Matcher m = Pattern.compile("^( {4}| {8})[^ /].*\\) (throws \\w+ )?\\{$").matcher(lines[i]);
            if (m.find()) {
                int k = i;
                while (k < lines.length && !lines[k].equals(m.group(1) + "}")) {
                    k++;
                }
                must(k - i < 60, "more than sixty lines: " + lines[i].trim());
            }
        }
    }

    /** Each loop is a for with a counter that steps. */
    private static void loops(String[] lines) {
        for (String line : lines) {
            must(!line.contains("while"), "a loop without a counter: " + line.trim());
            must(!line.trim().startsWith("for (") || line.contains("++)") || line.contains("--)")
                    || line.contains("-= 8)"), "a loop without a counter: " + line.trim());
        }
    }
}
