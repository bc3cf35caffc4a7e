/** Tells whole texts to a RowTypes and reads written ones back. */
final class Talk {
    private Talk() { }

    static void tell(RowTypes x, String text) {
        x.end(0);
        for (int i = 0; i < text.length(); i += 4) {
            x.sign(four(text, i));
        }
        x.end(text.length());
    }

    static int four(String text, int from) {
        int v = 0;
        for (int i = from; i < from + 4; i++) {
            v = v << 8 | (i < text.length() ? text.charAt(i) & 255 : 0);
        }
        return v;
    }

    static int infers(RowTypes x, String text) {
        tell(x, text);
        return x.infers();
    }

    static int defines(RowTypes x, String text) {
        tell(x, text);
        return x.defines();
    }

    static int fits(RowTypes x, int w, String text) {
        tell(x, text);
        return x.fits(w);
    }

    static String type(RowTypes x, int w) {
        StringBuilder s = new StringBuilder();
        int n = x.type(w, RowTypes.NONE);
        for (int i = 0; i < n; i++) {
            s.append((char) x.type(w, i));
        }
        return s.toString();
    }

    static String value(RowTypes x, int w) {
        StringBuilder s = new StringBuilder();
        int n = x.value(w, RowTypes.NONE);
        for (int i = 0; i < n; i++) {
            s.append((char) x.value(w, i));
        }
        return s.toString();
    }

    static String row(RowTypes x) {
        StringBuilder s = new StringBuilder();
        for (int i = 0; i < x.count(3); i++) {
            s.append(i == 0 ? "" : " ").append(x.row(i));
        }
        return s.toString();
    }
}
