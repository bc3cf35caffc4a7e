import java.util.ArrayList;
import java.util.List;

/**
 * A run of calls on one object, line by line, each with what is due:
 * "call arguments = answer", and behind it " : T" (the type that infers, defines have found), " -> T" (what THE ANSWER
 * has become), " / numbers" (the ROW that is told), " IT goes" (behind forgets). What a line doesn't name must stay as it
 * was: behind each line the run is made again on a new object, and all of it is looked at.
 */
final class Script {
    static final int MOST_CALLS = 512;
    private final String name;
    private final String[] lines;
    private final List<String> definitions = new ArrayList<>();
    private String it = "";
    private String answer = "";
    private String row = "";
    private int text = 0;
    private int calls = 0;

    private Script(String name, String... lines) {
        this.name = name;
        this.lines = lines;
    }

    static void run(String name, String... lines) {
        new Script(name, lines).go();
    }

    private void go() {
        for (int k = 0; k < lines.length; k++) {
            RowTypes x = new RowTypes();
            calls = 0;
            for (int i = 0; i < k; i++) {
                call(x, lines[i]);
            }
            String what = name + ", line " + (k + 1) + ": " + lines[k];
            int answered = call(x, lines[k]);
            Due.due(what, answered, Integer.parseInt(behind(lines[k], " = ")));
            expect(lines[k]);
            look(x, what);
        }
        Due.due(name + " has at most " + MOST_CALLS + " calls", calls <= MOST_CALLS, true);
    }

    /** What stands behind a mark, up to the next mark; null: the mark is not there. */
    private static String behind(String line, String mark) {
        int from = line.indexOf(mark);
        if (from < 0) {
            return null;
        }
        String rest = line.substring(from + mark.length());
        for (String next : new String[] {" : ", " -> ", " /", " IT goes"}) {
            int to = rest.indexOf(next);
            rest = to < 0 ? rest : rest.substring(0, to);
        }
        return rest.trim();
    }

    private void expect(String line) {
        String call = line.substring(0, line.indexOf(' '));
        int due = Integer.parseInt(behind(line, " = "));
        String type = behind(line, " : ");
        if (call.equals("infers") && due > 0) {
            it = type;
        } else if (call.equals("defines") && due >= 0) {
            definitions.add(type);
        } else if (call.equals("forgets") && due > 0) {
            int k = Integer.parseInt(line.split(" ")[1]);
            definitions.subList(k, definitions.size()).clear();
            it = line.contains(" IT goes") ? "" : it;
        }
        String becomes = behind(line, " -> ");
        answer = becomes == null ? answer : becomes;
        String told = behind(line, " /");
        row = told == null ? row : told;
        boolean grows = call.matches("tell|cut|sign") && due >= 0;
        text = grows ? due : call.matches("infers|defines|fits") ? 0 : text;
    }

    private void look(RowTypes x, String what) {
        Due.due(what + ", the ROW", Talk.row(x), row);
        Due.due(what + ", numbers of the ROW", x.count(3), row.isEmpty() ? 0 : row.split(" ").length);
        Due.due(what + ", definitions", x.count(0), definitions.size());
        Due.due(what + ", IT is there", x.count(1), it.isEmpty() ? 0 : 1);
        Due.due(what + ", THE ANSWER is there", x.count(2), answer.isEmpty() ? 0 : 1);
        Due.due(what + ", THE TEXT", x.count(4), text);
        Due.due(what + ", IT", Talk.type(x, -1), it);
        Due.due(what + ", THE ANSWER", Talk.type(x, -2), answer);
        for (int k = 0; k <= 8; k++) {
            Due.due(what + ", definition " + k, Talk.type(x, k), k < definitions.size() ? definitions.get(k) : "");
        }
    }

    private void tell(RowTypes x, String told) {
        int signs = 0;
        for (int i = 0; i < told.length(); i += 4) {
            calls++;
            signs = x.sign(Talk.four(told, i));
        }
        if (told.length() % 4 != 0) {
            calls++;
            x.end(signs - 4 + told.length() % 4);
        }
    }

    /** The call that a line tells; texts come behind what THE TEXT has (nothing, but for tell and cut). */
    private int call(RowTypes x, String line) {
        String[] words = line.substring(0, line.indexOf(" = ")).split(" ");
        calls++;
        int a = words.length > 1 && words[1].matches("-?\\d+") ? Integer.parseInt(words[1]) : 0;
        int b = words.length > 2 && words[2].matches("-?\\d+") ? Integer.parseInt(words[2]) : 0;
        switch (words[0]) {
            case "tell": tell(x, words[1]); return x.count(4);
            case "infers": tell(x, words.length > 1 ? words[1] : ""); return x.infers();
            case "defines": tell(x, words.length > 1 ? words[1] : ""); return x.defines();
            case "fits": tell(x, words.length > 2 ? words[2] : ""); return x.fits(a);
            case "cut": return x.end(a) ? x.count(4) : -1;
            default: return Talk.ask(x, words[0], a, b);
        }
    }
}
