import java.io.IOException;
import java.nio.file.Files;
import java.nio.file.Path;
import java.util.regex.Matcher;
import java.util.regex.Pattern;

/** The example in README.md: each of its calls answers what stands behind it. */
public final class ReadmeTest {
    private static final Pattern CALL = Pattern.compile("x\\.(\\w+)\\((.*?)\\); *// (true|false|'.'|-?\\d+)(?=[:,]|$).*");

    public static void main(String[] args) throws IOException {
        String readme = Files.readString(Path.of("README.md"));
        String block = readme.substring(readme.indexOf("```java") + 7, readme.indexOf("```", readme.indexOf("```java") + 3));
        RowTypes x = new RowTypes();
        int wrong = 0, calls = 0;
        for (String line : block.split("\n")) {
            Matcher m = CALL.matcher(line);
            if (m.matches()) {
                calls++;
                int due = answer(m.group(3));
                int got = call(x, m.group(1), m.group(2));
                if (got != due) {
                    wrong++;
                    System.out.println(line + " answered " + got);
                }
            } else if (line.startsWith("x.")) {
                wrong++;
                System.out.println("without an answer: " + line);
            }
        }
        for (String name : new String[] {"sign", "end", "infers", "defines", "forgets", "size", "type", "lacks", "sort", "needs", "field",
                "side", "closes", "fits", "above", "meets", "applies", "part", "steps", "value", "taken", "parts", "often", "free",
                "count", "row"}) {
            if (!readme.contains("`" + name + "`")) {
                wrong++;
                System.out.println("not in README.md: " + name);
            }
        }
        System.out.println(wrong == 0 && calls > 40 ? "all answers are as due" : wrong + " answers of " + calls + " are not as due");
        if (wrong != 0 || calls <= 40) {
            System.exit(1);
        }
    }

    private static int answer(String told) {
        return told.equals("true") ? 1 : told.equals("false") ? 0 : told.startsWith("'") ? told.charAt(1) : Integer.parseInt(told);
    }

    private static int call(RowTypes x, String name, String arguments) {
        int[] given = new int[2];
        String[] told = arguments.isEmpty() ? new String[0] : arguments.split(", ");
        for (int i = 0; i < told.length; i++) {
            given[i] = told[i].equals("RowTypes.NONE") ? RowTypes.NONE : Integer.decode(told[i]);
        }
        return Talk.ask(x, name, given[0], given[1]);
    }
}
