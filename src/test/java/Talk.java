/** Tells whole texts to a RowTypes and reads written ones back. */
final class Talk {
    private Talk() { }

    static void tell(RowTypes x, String text) {
        x.end(0);
        for (int i = 0; i < text.length(); i += 4) {
            x.sign(four(text, i));
        }
        x.end(text.length());
    }

    static int four(String text, int from) {
        int v = 0;
        for (int i = from; i < from + 4; i++) {
            v = v << 8 | (i < text.length() ? text.charAt(i) & 255 : 0);
        }
        return v;
    }

    static int infers(RowTypes x, String text) {
        tell(x, text);
        return x.infers();
    }

    static int defines(RowTypes x, String text) {
        tell(x, text);
        return x.defines();
    }

    static int fits(RowTypes x, int w, String text) {
        tell(x, text);
        return x.fits(w);
    }

    static String type(RowTypes x, int w) {
        StringBuilder s = new StringBuilder();
        int n = x.type(w, RowTypes.NONE);
        for (int i = 0; i < n; i++) {
            s.append((char) x.type(w, i));
        }
        return s.toString();
    }

    static String value(RowTypes x, int w) {
        StringBuilder s = new StringBuilder();
        int n = x.value(w, RowTypes.NONE);
        for (int i = 0; i < n; i++) {
            s.append((char) x.value(w, i));
        }
        return s.toString();
    }

    static String row(RowTypes x) {
        StringBuilder s = new StringBuilder();
        for (int i = 0; i < x.count(3); i++) {
            s.append(i == 0 ? "" : " ").append(x.row(i));
        }
        return s.toString();
    }

    /** A call that is told by its name and takes none, one or two numbers. */
    static int ask(RowTypes x, String call, int a, int b) {
        switch (call) {
            case "sign": return x.sign(a);
            case "end": return x.end(a) ? 1 : 0;
            case "infers": return x.infers();
            case "defines": return x.defines();
            case "forgets": return x.forgets(a);
            case "size": return x.size(a);
            case "type": return x.type(a, b);
            case "lacks": return x.lacks(a, b);
            case "sort": return x.sort(a);
            case "needs": return x.needs(a);
            case "field": return x.field(a, b);
            case "side": return x.side(a, b);
            case "closes": return x.closes(a);
            case "fits": return x.fits(a);
            case "above": return x.above(a, b);
            case "meets": return x.meets(a, b);
            case "applies": return x.applies(a, b);
            case "part": return x.part(a, b);
            case "steps": return x.steps(a);
            case "value": return x.value(a, b);
            case "taken": return x.taken(a, b);
            case "parts": return x.parts(a);
            case "often": return x.often(a, b);
            case "free": return x.free(a);
            case "count": return x.count(a);
            case "row": return (int) x.row(a);
            default: throw new IllegalStateException("no such call: " + call);
        }
    }
}
