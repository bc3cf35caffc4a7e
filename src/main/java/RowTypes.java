import java.util.Arrays;
import java.util.NoSuchElementException;

/** Types of records and variants by rows: see the document for what each call promises. */
public final class RowTypes {
    public static final int NONE = -1;

    private static final int THE_ANSWER = -2;
    private static final int LABELS = 8;
    private static final int MOST_SIGNS = 100;
    private static final int MOST_DEFINITIONS = 8;
    private static final int MOST_SIZE = 60;
    private static final int MOST_STEPS = 500;
    private static final int MOST_ROW = 11;

    // Far above what any call can need: bounds of loops whose true end is an empty stack.
    private static final int LONG_LOOP = 1000000;
    private static final int MOST_NODES = 262144;
    private static final int MOST_ITEMS = 1048576;

    // Answers below 0 beside NONE.
    private static final int NOT_SO = -2;
    private static final int TOO_MANY_STEPS = -2;
    private static final int NO_SUCH_FIELD = -3;
    private static final int EIGHT_DEFINITIONS = -300;

    // Where the expressions stand: the definitions first, then IT, then the one that is read just now.
    private static final int IT = MOST_DEFINITIONS;
    private static final int TRIAL = MOST_DEFINITIONS + 1;

    // Kinds of expressions, in the order in which parts() tells them.
    private static final int NUMBER = 0;
    private static final int NAME = 1;
    private static final int FUNCTION = 2;
    private static final int CALL = 3;
    private static final int LET = 4;
    private static final int EMPTY = 5;
    private static final int EXTEND = 6;
    private static final int CHANGE = 7;
    private static final int JOIN = 8;
    private static final int VARIANT = 9;
    private static final int CHOICE = 10;
    private static final int KINDS = 11;

    // Kinds of types and values, in the order of sort(); then those of rows.
    private static final int S_NUMBER = 0;
    private static final int S_FUNCTION = 1;
    private static final int S_RECORD = 2;
    private static final int S_VARIANT = 3;
    private static final int S_VARIABLE = 4;
    private static final int R_OPEN = 5;
    private static final int R_FIELD = 6;
    private static final int R_CLOSED = 7;
    // Variables that may not become anything: those of the less general type in above().
    private static final int F_VARIABLE = 8;
    private static final int F_OPEN = 9;

    private static final int UNKNOWN = 1;
    private static final int CLASH = 2;
    private static final int MISSING = 3;
    private static final int TWICE = 4;
    private static final int ENDLESS = 5;
    private static final int OPEN = 6;
    private static final int TOO_GREAT = 7;

    private final int[] text = new int[MOST_SIGNS];
    private int textLength;
    private final Expression[] texts = new Expression[MOST_DEFINITIONS + 2];
    private int definitions;
    private boolean hasIt;
    private Kept answer = new Kept();
    private Kept made = new Kept();
    private boolean hasAnswer;
    private final int[] told = new int[MOST_ROW];
    private int toldLength;
    private int workedOut = TRIAL;
    private final Reader reader = new Reader();
    private final Nodes nodes = new Nodes();
    private final TypeReader typeReader = new TypeReader(nodes);
    private final Unifier unifier = new Unifier(nodes);
    private final Finder finder = new Finder(nodes, unifier, texts);
    private final Machine machine = new Machine(texts);
    private final Survey survey = new Survey();
    private final Scribe scribe = new Scribe();

    public RowTypes() {
        for (int i = 0; i < texts.length; i++) {
            texts[i] = new Expression();
        }
    }

    // ---- expressions

    public int sign(int v) {
        if (textLength + 4 > MOST_SIGNS) {
            return NONE;
        }
        for (int shift = 24; shift >= 0; shift -= 8) {
            text[textLength] = (v >>> shift) & 255;
            textLength++;
        }
        return textLength;
    }

    public boolean end(int n) {
        if (n < 0 || n > textLength) {
            return false;
        }
        textLength = n;
        return true;
    }

    public int infers() {
        int bad = readText();
        if (bad != NONE) {
            return -1 - bad;
        }
        finder.begin(TRIAL, definitions);
        if (finder.find(0, 0) == NONE) {
            return tellFault(finder.fault, finder.faultPlace, finder.faultLabel);
        }
        nodes.flatten(finder.typeAt(0), texts[TRIAL].kept);
        exchange(TRIAL, IT);
        hasIt = true;
        workedOut = TRIAL;
        return texts[IT].kept.length;
    }

    public int defines() {
        int bad = readText();
        if (bad != NONE) {
            return -1 - bad;
        }
        if (definitions >= MOST_DEFINITIONS) {
            return EIGHT_DEFINITIONS;
        }
        finder.begin(TRIAL, definitions);
        if (finder.find(0, 0) == NONE) {
            return tellFault(finder.fault, finder.faultPlace, finder.faultLabel);
        }
        nodes.flatten(finder.typeAt(0), texts[TRIAL].kept);
        exchange(TRIAL, definitions);
        definitions++;
        workedOut = TRIAL;
        return definitions - 1;
    }

    public int forgets(int k) {
        if (k < 0 || k > definitions) {
            return NONE;
        }
        if (hasIt) {
            survey.look(texts[IT]);
            for (int i = k; i < definitions; i++) {
                if ((survey.freeNames & nameBit('p' + i)) != 0) {
                    hasIt = false;
                }
            }
        }
        int gone = definitions - k;
        definitions = k;
        workedOut = TRIAL;
        return gone;
    }

    // ---- types

    public int size(int w) {
        Kept kept = keptOf(w);
        if (kept == null) {
            return NONE;
        }
        clearRow();
        tell(kept.variables);
        tell(kept.rowVariables());
        return kept.length;
    }

    public int type(int w, int i) {
        Kept kept = keptOf(w);
        if (kept == null) {
            return NONE;
        }
        return signOf(scribe.writeType(kept), i);
    }

    public int lacks(int w, int k) {
        Kept kept = keptOf(w);
        if (kept == null || k < 0 || k >= kept.variables) {
            return NONE;
        }
        int lacking = kept.lacking(k);
        return lacking == NONE ? NOT_SO : lacking;
    }

    public int sort(int w) {
        Kept kept = keptOf(w);
        if (kept == null) {
            return NONE;
        }
        int root = loadAnew(kept);
        clearRow();
        tellRow(root);
        return nodes.kindOf(root);
    }

    public int needs(int w) {
        Kept kept = keptOf(w);
        if (kept == null) {
            return NONE;
        }
        int root = loadAnew(kept);
        int from = nodes.firstOf(root);
        if (nodes.kindOf(root) != S_FUNCTION || !nodes.hasRow(from)) {
            return NOT_SO;
        }
        clearRow();
        tellRow(from);
        return nodes.kindOf(from) == S_RECORD ? 0 : 1;
    }

    public int field(int w, int label) {
        Kept kept = keptOf(w);
        if (kept == null || !isLabel(label)) {
            return NONE;
        }
        int root = loadAnew(kept);
        int found = nodes.hasRow(root) ? nodes.fieldOf(root, label) : NONE;
        return found == NONE ? NOT_SO : answerFound(found);
    }

    public int side(int w, int which) {
        Kept kept = keptOf(w);
        if (kept == null || which < 0 || which > 1) {
            return NONE;
        }
        int root = loadAnew(kept);
        if (nodes.kindOf(root) != S_FUNCTION) {
            return NOT_SO;
        }
        return answerFound(which == 0 ? nodes.firstOf(root) : nodes.secondOf(root));
    }

    public int closes(int w) {
        Kept kept = keptOf(w);
        if (kept == null) {
            return NONE;
        }
        int root = loadAnew(kept);
        for (int i = 0; i < kept.variables; i++) {
            if (kept.lacking(i) != NONE) {
                nodes.become(nodes.variable(i), nodes.closed());
            }
        }
        return answerFound(root);
    }

    public int fits(int w) {
        int length = textLength;
        textLength = 0;
        Kept kept = keptOf(w);
        if (kept == null) {
            return NONE;
        }
        nodes.clear();
        int bad = typeReader.read(text, length);
        if (bad != NONE) {
            return -1 - bad;
        }
        return unifier.unify(nodes.load(kept, false), typeReader.result) == 0 ? 1 : 0;
    }

    public int above(int a, int b) {
        Kept first = keptOf(a);
        Kept other = keptOf(b);
        if (first == null || other == null) {
            return NONE;
        }
        clearRow();
        tell(isAsGeneral(other, first));
        return isAsGeneral(first, other);
    }

    public int meets(int a, int b) {
        Kept first = keptOf(a);
        Kept other = keptOf(b);
        if (first == null || other == null) {
            return NONE;
        }
        int node = loadAnew(first);
        return answerUnified(node, nodes.load(other, false), node);
    }

    public int applies(int a, int b) {
        Kept first = keptOf(a);
        Kept other = keptOf(b);
        if (first == null || other == null) {
            return NONE;
        }
        int node = loadAnew(first);
        int from = nodes.load(other, false);
        int to = nodes.newVariable();
        return answerUnified(node, nodes.function(from, to), to);
    }

    public int part(int w, int place) {
        int at = textOf(w);
        if (at == NONE) {
            return NONE;
        }
        if (texts[at].kindAt(place) == NONE) {
            return NOT_SO;
        }
        finder.begin(at, definitions);
        int found = finder.find(0, 0) == NONE ? NONE : answerFound(finder.typeAt(place));
        return found == NONE ? -1000 * TOO_GREAT : found;
    }

    // ---- values

    public int steps(int w) {
        int at = textOf(w);
        if (at == NONE) {
            return NONE;
        }
        if (!worksOut(at)) {
            return TOO_MANY_STEPS;
        }
        clearRow();
        tell(machine.sortOf(machine.result));
        tell(machine.numberOf(machine.result));
        return machine.steps;
    }

    public int value(int w, int i) {
        int at = textOf(w);
        if (at == NONE || i < NONE) {
            return NONE;
        }
        if (!worksOut(at)) {
            return TOO_MANY_STEPS;
        }
        return i == NONE ? machine.signsInAll() : scribe.signOfValue(machine, i);
    }

    public int taken(int w, int label) {
        int at = textOf(w);
        if (at == NONE || !isLabel(label)) {
            return NONE;
        }
        if (!worksOut(at)) {
            return TOO_MANY_STEPS;
        }
        int inner = machine.contentOf(machine.result, label);
        if (machine.sortOf(inner) == NONE) {
            return NO_SUCH_FIELD;
        }
        clearRow();
        tell(machine.numberOf(inner));
        return machine.sortOf(inner);
    }

    // ---- texts of expressions

    public int parts(int w) {
        int at = textOf(w);
        if (at == NONE) {
            return NONE;
        }
        clearRow();
        int all = 0;
        for (int kind = 0; kind < KINDS; kind++) {
            int ofKind = texts[at].countKind(kind);
            tell(ofKind);
            all += ofKind;
        }
        return all;
    }

    public int often(int w, int label) {
        int at = textOf(w);
        if (at == NONE || !isLabel(label)) {
            return NONE;
        }
        Expression expression = texts[at];
        int extending = expression.countLabel(label, EXTEND);
        int changing = expression.countLabel(label, CHANGE);
        int wrapping = expression.countLabel(label, VARIANT);
        int branching = expression.countLabel(label, CHOICE);
        clearRow();
        tell(extending);
        tell(changing);
        tell(wrapping);
        tell(branching);
        return extending + changing + wrapping + branching;
    }

    public int free(int w) {
        int at = textOf(w);
        if (at == NONE) {
            return NONE;
        }
        survey.look(texts[at]);
        clearRow();
        tell(survey.deepest);
        return survey.freeNames;
    }

    public int count(int what) {
        switch (what) {
            case 0: return definitions;
            case 1: return hasIt ? 1 : 0;
            case 2: return hasAnswer ? 1 : 0;
            case 3: return toldLength;
            case 4: return textLength;
            default: return NONE;
        }
    }

    public long row(int i) throws NoSuchElementException {
        if (i < 0 || i >= toldLength || i >= told.length) {
            throw new NoSuchElementException();
        }
        return told[i];
    }

    // ---- what the calls share

    private int textOf(int w) {
        if (w == NONE) {
            return hasIt ? IT : NONE;
        }
        return w >= 0 && w < definitions && w < MOST_DEFINITIONS ? w : NONE;
    }

    private Kept keptOf(int w) {
        if (w == THE_ANSWER) {
            return hasAnswer ? answer : null;
        }
        int at = textOf(w);
        return at == NONE ? null : texts[at].kept;
    }

    private int readText() {
        int length = textLength;
        textLength = 0;
        return reader.read(text, length, texts[TRIAL]);
    }

    private void exchange(int i, int k) {
        Expression before = texts[i];
        texts[i] = texts[k];
        texts[k] = before;
    }

    private int loadAnew(Kept kept) {
        nodes.clear();
        return nodes.load(kept, false);
    }

    /** THE ANSWER becomes a type: its SIZE; NONE, and nothing has changed, if it is too great. */
    private int answerFound(int found) {
        if (nodes.flatten(found, made) > MOST_SIZE) {
            return NONE;
        }
        Kept before = answer;
        answer = made;
        made = before;
        hasAnswer = true;
        return answer.length;
    }

    private int answerUnified(int first, int other, int found) {
        int fault = unifier.unify(first, other);
        if (fault != 0) {
            return tellFault(fault, 0, unifier.label);
        }
        int length = answerFound(found);
        return length == NONE ? tellFault(TOO_GREAT, 0, NONE) : length;
    }

    private int isAsGeneral(Kept general, Kept special) {
        int node = loadAnew(general);
        int fault = unifier.unify(node, nodes.load(special, true));
        return fault == 0 && unifier.becameSame ? 1 : 0;
    }

    private boolean worksOut(int at) {
        if (workedOut != at) {
            machine.run(at, definitions);
            workedOut = at;
        }
        return machine.steps <= MOST_STEPS;
    }

    private void clearRow() {
        toldLength = 0;
    }

    private void tell(int number) {
        if (toldLength < told.length) {
            told[toldLength] = number;
            toldLength++;
        }
    }

    private void tellRow(int node) {
        if (nodes.hasRow(node)) {
            int end = nodes.endOf(node);
            tell(nodes.labelsOf(node));
            tell(nodes.kindOf(end) == R_OPEN ? 1 : 0);
            tell(nodes.bitsOf(end));
        }
    }

    private int tellFault(int fault, int place, int label) {
        clearRow();
        tell(label);
        return -1000 * fault - place;
    }

    private static int signOf(Ints signs, int i) {
        return i == NONE ? signs.length() : signs.get(i);
    }

    private static boolean isLabel(int label) {
        return label >= 0 && label < LABELS;
    }

    private static int nameBit(int name) {
        return name >= 'a' && name <= 'z' ? 1 << (name - 'a') : 0;
    }

    /** Numbers in a row that grows: a stack, or the signs of what is written. */
    private static final class Ints {
        private int[] items = new int[256];
        private int used;

        void clear() {
            used = 0;
        }

        int length() {
            return used;
        }

        void push(int item) {
            if (used >= MOST_ITEMS) {
                return;
            }
            if (used >= items.length) {
                items = Arrays.copyOf(items, used * 2);
            }
            items[used] = item;
            used++;
        }

        int pop() {
            if (used == 0) {
                return NONE;
            }
            used--;
            return items[used];
        }

        int get(int i) {
            return i >= 0 && i < used ? items[i] : NONE;
        }
    }

    /** An expression by its text: an expression within it is named by its place. */
    private static final class Expression {
        private final int[] signs = new int[MOST_SIGNS];
        private final int[] kinds = new int[MOST_SIGNS];
        // Of an expression: its second part, or its first branch; of a branch: the branch behind it.
        private final int[] links = new int[MOST_SIGNS];
        private int length;
        private final Kept kept = new Kept();

        void take(int[] text, int textLength) {
            length = 0;
            for (int i = 0; i < textLength && i < text.length && i < MOST_SIGNS; i++) {
                signs[i] = text[i];
                kinds[i] = NONE;
                links[i] = NONE;
                length++;
            }
        }

        int signAt(int i) {
            return i >= 0 && i < length ? signs[i] : NONE;
        }

        int kindAt(int i) {
            return i >= 0 && i < length ? kinds[i] : NONE;
        }

        int linkAt(int i) {
            return i >= 0 && i < length ? links[i] : NONE;
        }

        int labelAt(int i) {
            return signAt(i) - 'A';
        }

        void begin(int place, int kind) {
            if (place >= 0 && place < length) {
                kinds[place] = kind;
            }
        }

        void link(int from, int to) {
            if (from >= 0 && from < length) {
                links[from] = to;
            }
        }

        int firstPart(int place) {
            switch (kindAt(place)) {
                case CALL:
                case JOIN:
                case CHOICE:
                    return place + 1;
                case VARIANT:
                    return place + 2;
                case CHANGE:
                    return signAt(place) == '~' ? place + 3 : place + 2;
                case FUNCTION:
                case LET:
                case EXTEND:
                    return place + 3;
                default:
                    return NONE;
            }
        }

        int secondPart(int place) {
            return kindAt(place) == CHOICE ? NONE : linkAt(place);
        }

        int countKind(int kind) {
            int all = 0;
            for (int i = 0; i < length; i++) {
                if (kindAt(i) == kind) {
                    all++;
                }
            }
            return all;
        }

        int countLabel(int label, int kind) {
            int all = 0;
            for (int i = 0; i < length; i++) {
                if (labelAt(i) == label && ownerOfLabel(i) == kind) {
                    all++;
                }
            }
            return all;
        }

        // The sign ahead of a label tells what it belongs to, but for the second label of ~.
        private int ownerOfLabel(int i) {
            if (signAt(i - 2) == '~') {
                return CHANGE;
            }
            int kind = kindAt(i - 1);
            return kind == EXTEND || kind == CHANGE || kind == VARIANT ? kind : CHOICE;
        }
    }

    /** Reads an expression from the left, with a stack of what must come next. */
    private static final class Reader {
        // What must come behind the first sign of each kind. A capital stands for: L a label,
        // U a label unlike the one ahead of it, N a name, E an expression, S the second
        // expression, B a branch, C what comes behind a branch. Others stand for themselves.
        private static final String BEHIND_FUNCTION = "N.E";
        private static final String BEHIND_CALL = "ES)";
        private static final String BEHIND_LET = "N=E;S";
        private static final String BEHIND_EMPTY = "}";
        private static final String BEHIND_EXTEND = "L=E|S}";
        private static final String BEHIND_RENAME = "LUE";
        private static final String BEHIND_CHANGE = "LE";
        private static final String BEHIND_JOIN = "ES";
        private static final String BEHIND_VARIANT = "LE>";
        private static final String BEHIND_CHOICE = "E[B";
        private static final String BEHIND_LABEL = "N.EC";
        private static final String BEHIND_STAR = "N.E]";

        private final Ints due = new Ints();
        private final int[] lastBranch = new int[MOST_SIGNS];
        private final int[] branchLabels = new int[MOST_SIGNS];
        private Expression into;
        private int at;

        /** NONE, or the place of the first sign that can't stand there. */
        int read(int[] text, int length, Expression expression) {
            into = expression;
            into.take(text, length);
            at = 0;
            due.clear();
            due.push('E');
            for (int k = 0; k < LONG_LOOP && due.length() > 0; k++) {
                int item = due.pop();
                if (!accepts(item & 255, item >> 8)) {
                    return at;
                }
            }
            return at < length ? at : NONE;
        }

        private boolean accepts(int what, int owner) {
            switch (what) {
                case 'E':
                    return acceptsExpression();
                case 'S':
                    into.link(owner, at);
                    return acceptsExpression();
                case 'B':
                    return acceptsBranch(owner);
                case 'C':
                    return acceptsBehindBranch(owner);
                default:
                    break;
            }
            if (!acceptsSign(what, into.signAt(at))) {
                return false;
            }
            at++;
            return true;
        }

        private boolean acceptsSign(int what, int sign) {
            switch (what) {
                case 'L':
                    return isLabel(sign - 'A');
                case 'U':
                    return isLabel(sign - 'A') && sign != into.signAt(at - 1);
                case 'N':
                    return nameBit(sign) != 0;
                default:
                    return sign == what;
            }
        }

        private boolean acceptsExpression() {
            int kind = kindOf(into.signAt(at), into.signAt(at + 1));
            if (kind == NONE) {
                return false;
            }
            int place = at;
            into.begin(place, kind);
            if (kind == CHOICE && place < MOST_SIGNS) {
                lastBranch[place] = place;
                branchLabels[place] = 0;
            }
            expect(behind(kind, into.signAt(place)), place);
            at++;
            return true;
        }

        private boolean acceptsBranch(int owner) {
            int sign = into.signAt(at);
            if (owner < 0 || owner >= MOST_SIGNS) {
                return false;
            }
            if (sign == '*') {
                expect(BEHIND_STAR, owner);
            } else {
                int label = sign - 'A';
                if (!isLabel(label) || (branchLabels[owner] & (1 << label)) != 0) {
                    return false;
                }
                branchLabels[owner] |= 1 << label;
                expect(BEHIND_LABEL, owner);
            }
            into.link(lastBranch[owner], at);
            lastBranch[owner] = at;
            at++;
            return true;
        }

        private boolean acceptsBehindBranch(int owner) {
            int sign = into.signAt(at);
            if (sign != ';' && sign != ']') {
                return false;
            }
            if (sign == ';') {
                expect("B", owner);
            }
            at++;
            return true;
        }

        private void expect(String items, int owner) {
            for (int i = items.length() - 1; i >= 0; i--) {
                due.push(items.charAt(i) | owner << 8);
            }
        }

        private static int kindOf(int sign, int next) {
            if (sign >= '0' && sign <= '9') {
                return NUMBER;
            }
            if (nameBit(sign) != 0) {
                return NAME;
            }
            switch (sign) {
                case '\\': return FUNCTION;
                case '(': return CALL;
                case '$': return LET;
                case '{': return next == '}' ? EMPTY : EXTEND;
                case '#':
                case '-':
                case '~': return CHANGE;
                case '&': return JOIN;
                case '<': return VARIANT;
                case '?': return CHOICE;
                default: return NONE;
            }
        }

        private static String behind(int kind, int sign) {
            switch (kind) {
                case FUNCTION: return BEHIND_FUNCTION;
                case CALL: return BEHIND_CALL;
                case LET: return BEHIND_LET;
                case EMPTY: return BEHIND_EMPTY;
                case EXTEND: return BEHIND_EXTEND;
                case CHANGE: return sign == '~' ? BEHIND_RENAME : BEHIND_CHANGE;
                case JOIN: return BEHIND_JOIN;
                case VARIANT: return BEHIND_VARIANT;
                case CHOICE: return BEHIND_CHOICE;
                default: return "";
            }
        }
    }

    /** Reads a type without variables, as it is written, with a stack of what must come next. */
    private static final class TypeReader {
        // What must come next: a type; the first field of a row or its close; what comes behind
        // a field; a field; and what is made then: a function; a field, put to its row.
        private static final int TYPE = 'T';
        private static final int ROW = 'R';
        private static final int BEHIND_FIELD = 'C';
        private static final int FIELD = 'L';
        private static final int MAKE_FUNCTION = 'F';
        private static final int PUT_FIELD = 'P';

        private final Nodes nodes;
        private final Ints due = new Ints();
        private final Ints built = new Ints();
        private int[] signs;
        private int length;
        private int at;
        private int result;

        TypeReader(Nodes nodes) {
            this.nodes = nodes;
        }

        /** NONE, or the place of the first sign that can't stand there. */
        int read(int[] text, int textLength) {
            signs = text;
            length = textLength;
            at = 0;
            built.clear();
            due.clear();
            due.push(TYPE);
            for (int k = 0; k < LONG_LOOP && due.length() > 0; k++) {
                int item = due.pop();
                if (!accepts(item & 255, item >> 8)) {
                    return at;
                }
            }
            result = built.pop();
            return at < length ? at : NONE;
        }

        private int signNow() {
            return signs != null && at < length && at < signs.length ? signs[at] : NONE;
        }

        private boolean accepts(int what, int about) {
            switch (what) {
                case TYPE:
                    return acceptsType();
                case ROW:
                    return signNow() == closing(about) ? closesRow(about) : acceptsField(about);
                case BEHIND_FIELD:
                    return signNow() == closing(about) ? closesRow(about) : acceptsComma(about);
                case FIELD:
                    return acceptsField(about);
                case MAKE_FUNCTION:
                    makeFunction();
                    return true;
                case PUT_FIELD:
                    putField(about);
                    return true;
                default:
                    break;
            }
            if (signNow() != what) {
                return false;
            }
            at++;
            return true;
        }

        private boolean acceptsType() {
            switch (signNow()) {
                case 'I':
                    built.push(nodes.number());
                    break;
                case '(':
                    due.push(MAKE_FUNCTION);
                    due.push(')');
                    due.push(TYPE);
                    due.push('>');
                    due.push(TYPE);
                    break;
                case '{':
                    built.push(nodes.closed());
                    due.push(ROW | S_RECORD << 8);
                    break;
                case '<':
                    built.push(nodes.closed());
                    due.push(ROW | S_VARIANT << 8);
                    break;
                default:
                    return false;
            }
            at++;
            return true;
        }

        private boolean acceptsField(int kind) {
            int label = signNow() - 'A';
            if (!isLabel(label) || nodes.fieldIn(built.get(built.length() - 1), label) != NONE) {
                return false;
            }
            due.push(BEHIND_FIELD | kind << 8);
            due.push(PUT_FIELD | label << 8);
            due.push(TYPE);
            due.push(':');
            at++;
            return true;
        }

        private boolean acceptsComma(int kind) {
            if (signNow() != ',') {
                return false;
            }
            due.push(FIELD | kind << 8);
            at++;
            return true;
        }

        private boolean closesRow(int kind) {
            built.push(nodes.withRow(kind, built.pop()));
            at++;
            return true;
        }

        private void makeFunction() {
            int to = built.pop();
            int from = built.pop();
            built.push(nodes.function(from, to));
        }

        private void putField(int label) {
            int type = built.pop();
            int rest = built.pop();
            built.push(nodes.fieldAhead(label, type, rest));
        }

        private static int closing(int kind) {
            return kind == S_RECORD ? '}' : '>';
        }
    }

    /**
     * A type that is kept: its parts from the left, an END behind its fields, so that there are
     * as many as its SIZE; variables are numbered by the order in which they come.
     */
    private static final class Kept {
        // Each part: its kind, and 8 times the number of a variable or the labels of a row
        // (256 with these if the row has an END that is a variable).
        private final int[] parts = new int[MOST_SIZE + 1];
        private int length;
        // NONE: no row variable.
        private final int[] lacks = new int[MOST_SIZE + 1];
        // Nodes that stand for variables when the type is used; NONE: a new variable does.
        private final int[] given = new int[MOST_SIZE + 1];
        private int variables;

        void clear() {
            length = 0;
            variables = 0;
        }

        void add(int kind, int about) {
            if (length < parts.length) {
                parts[length] = kind | about << 3;
                length++;
            }
        }

        int addVariable(int lacking) {
            if (variables >= lacks.length) {
                return 0;
            }
            lacks[variables] = lacking;
            given[variables] = NONE;
            variables++;
            return variables - 1;
        }

        int kindAt(int i) {
            return i >= 0 && i < length ? parts[i] & 7 : NONE;
        }

        int aboutAt(int i) {
            return i >= 0 && i < length ? parts[i] >> 3 : 0;
        }

        int labelsAt(int i) {
            return aboutAt(i) & 255;
        }

        boolean isOpen(int i) {
            return (aboutAt(i) & 256) != 0;
        }

        int lacking(int variable) {
            return variable >= 0 && variable < variables ? lacks[variable] : NONE;
        }

        int givenFor(int variable) {
            return variable >= 0 && variable < variables ? given[variable] : NONE;
        }

        void give(int variable, int node) {
            if (variable >= 0 && variable < variables) {
                given[variable] = node;
            }
        }

        int rowVariables() {
            int all = 0;
            for (int i = 0; i < variables; i++) {
                if (lacking(i) != NONE) {
                    all++;
                }
            }
            return all;
        }
    }

    /** Types that are being unified, as nodes; a new question uses the same nodes again. */
    private static final class Nodes {
        private static final int FIRST_ROOM = 1024;
        // More than a kept type is made of, or one expression, or a pair that is unified, makes.
        private static final int ENOUGH = 256;

        private int[] kinds = new int[FIRST_ROOM];
        // Of a function: from, to; of a record or a variant: its row; of a field: its type and
        // the row behind it; of a variable: its number, while a type is laid flat.
        private int[] firsts = new int[FIRST_ROOM];
        private int[] seconds = new int[FIRST_ROOM];
        // Of a field: its label; of a row variable: what it lacks.
        private int[] bits = new int[FIRST_ROOM];
        // What a variable has become. A function, a record or a variant that has become the same as
        // another one becomes that one, or great types that share parts would take too long.
        private int[] links = new int[FIRST_ROOM];
        private int[] marks = new int[FIRST_ROOM];
        private int used;
        private int mark;
        private final Ints work = new Ints();
        private final int[] types = new int[LABELS];
        private final int[] otherTypes = new int[LABELS];
        private final int[] variables = new int[MOST_SIZE + 1];

        void clear() {
            used = 0;
            mark = 0;
            make(S_NUMBER, NONE, NONE, 0);
            make(R_CLOSED, NONE, NONE, 0);
        }

        int number() {
            return 0;
        }

        int closed() {
            return 1;
        }

        int newVariable() {
            return make(S_VARIABLE, NONE, NONE, 0);
        }

        int newEnd(int lacking) {
            return make(R_OPEN, NONE, NONE, lacking);
        }

        int function(int from, int to) {
            return make(S_FUNCTION, from, to, 0);
        }

        int withRow(int kind, int row) {
            return make(kind, row, NONE, 0);
        }

        int fieldAhead(int label, int type, int rest) {
            return make(R_FIELD, type, rest, label);
        }

        private int make(int kind, int first, int second, int bit) {
            if (used >= kinds.length) {
                return NONE;
            }
            int node = used;
            used++;
            kinds[node] = kind;
            firsts[node] = first;
            seconds[node] = second;
            bits[node] = bit;
            links[node] = NONE;
            marks[node] = 0;
            return node;
        }

        /** Makes room for what is made next. */
        void makeRoom() {
            if (used + ENOUGH <= kinds.length || kinds.length >= MOST_NODES) {
                return;
            }
            int room = kinds.length * 2;
            kinds = Arrays.copyOf(kinds, room);
            firsts = Arrays.copyOf(firsts, room);
            seconds = Arrays.copyOf(seconds, room);
            bits = Arrays.copyOf(bits, room);
            links = Arrays.copyOf(links, room);
            marks = Arrays.copyOf(marks, room);
        }

        int kindOf(int node) {
            return node >= 0 && node < used ? kinds[node] : NONE;
        }

        int firstOf(int node) {
            return node >= 0 && node < used ? firsts[node] : NONE;
        }

        int secondOf(int node) {
            return node >= 0 && node < used ? seconds[node] : NONE;
        }

        int bitsOf(int node) {
            return node >= 0 && node < used ? bits[node] : 0;
        }

        void addBits(int node, int more) {
            if (node >= 0 && node < used) {
                bits[node] |= more;
            }
        }

        void become(int node, int other) {
            if (node >= 0 && node < used && node != other) {
                links[node] = other;
            }
        }

        /** What a node has become. */
        int look(int node) {
            int at = node;
            for (int k = 0; k < used && at >= 0 && at < used && links[at] != NONE; k++) {
                at = links[at];
            }
            return at;
        }

        boolean hasRow(int node) {
            return kindOf(node) == S_RECORD || kindOf(node) == S_VARIANT;
        }

        int fieldOf(int node, int label) {
            return fieldIn(firstOf(node), label);
        }

        int fieldIn(int row, int label) {
            int at = look(row);
            for (int k = 0; k < used && kindOf(at) == R_FIELD; k++) {
                if (bitsOf(at) == label) {
                    return firstOf(at);
                }
                at = look(secondOf(at));
            }
            return NONE;
        }

        int endOf(int node) {
            int at = look(firstOf(node));
            for (int k = 0; k < used && kindOf(at) == R_FIELD; k++) {
                at = look(secondOf(at));
            }
            return at;
        }

        int labelsOf(int node) {
            gather(node);
            int all = 0;
            for (int label = 0; label < LABELS; label++) {
                if (types[label] != NONE) {
                    all |= 1 << label;
                }
            }
            return all;
        }

        /** A row of the fields of a record, and another end. */
        int fieldsAhead(int node, int end) {
            gather(node);
            return rowOfTypes(end);
        }

        /** Lays out the types of the fields of a record or a variant by their labels; its end. */
        private int gather(int node) {
            Arrays.fill(types, NONE);
            int at = look(firstOf(node));
            for (int k = 0; k < used && kindOf(at) == R_FIELD; k++) {
                if (isLabel(bitsOf(at))) {
                    types[bitsOf(at)] = firstOf(at);
                }
                at = look(secondOf(at));
            }
            return at;
        }

        /** Whether two records, or two variants, are of the same parts. */
        boolean areSameRows(int a, int b) {
            int end = gather(a);
            for (int label = 0; label < LABELS; label++) {
                otherTypes[label] = look(types[label]);
            }
            if (gather(b) != end) {
                return false;
            }
            for (int label = 0; label < LABELS; label++) {
                if (look(types[label]) != otherTypes[label]) {
                    return false;
                }
            }
            return true;
        }

        boolean areSameFunctions(int a, int b) {
            return look(firstOf(a)) == look(firstOf(b)) && look(secondOf(a)) == look(secondOf(b));
        }

        private int rowOfTypes(int end) {
            int row = end;
            for (int label = LABELS - 1; label >= 0; label--) {
                if (types[label] != NONE) {
                    row = make(R_FIELD, types[label], row, label);
                }
            }
            return row;
        }

        /** Lays a type flat; its SIZE, or one more than the most if it is greater. */
        int flatten(int root, Kept into) {
            into.clear();
            mark++;
            work.clear();
            work.push(root);
            for (int k = 0; k < LONG_LOOP && work.length() > 0 && into.length <= MOST_SIZE; k++) {
                int node = look(work.pop());
                int kind = kindOf(node);
                if (kind == S_FUNCTION) {
                    into.add(kind, 0);
                    work.push(secondOf(node));
                    work.push(firstOf(node));
                } else if (hasRow(node)) {
                    flattenRow(node, into);
                } else if (kind == S_VARIABLE || kind == R_OPEN) {
                    into.add(kind, numberOf(node, into));
                } else {
                    into.add(S_NUMBER, 0);
                }
            }
            return into.length;
        }

        private void flattenRow(int node, Kept into) {
            int about = 0;
            int end = gather(node);
            if (kindOf(end) == R_OPEN) {
                work.push(end);
                about = 256;
            }
            for (int label = LABELS - 1; label >= 0; label--) {
                if (types[label] != NONE) {
                    work.push(types[label]);
                    about |= 1 << label;
                }
            }
            into.add(kindOf(node), about);
        }

        private int numberOf(int variable, Kept into) {
            if (variable < 0 || variable >= used) {
                return 0;
            }
            if (marks[variable] != mark) {
                marks[variable] = mark;
                firsts[variable] = into.addVariable(kinds[variable] == R_OPEN ? bits[variable] : NONE);
                variables[firsts[variable]] = variable;
            }
            return firsts[variable];
        }

        /** The node of a variable of the type that was laid flat, or loaded, last. */
        int variable(int number) {
            return number >= 0 && number < variables.length ? variables[number] : NONE;
        }

        /** A kept type with new variables, but for those that are given; fixed ones can't become anything. */
        int load(Kept kept, boolean fixed) {
            int ofTypes = fixed ? F_VARIABLE : S_VARIABLE;
            int ofRows = fixed ? F_OPEN : R_OPEN;
            makeRoom();
            for (int i = 0; i < kept.variables && i < variables.length; i++) {
                int lacking = kept.lacking(i);
                if (kept.givenFor(i) != NONE) {
                    variables[i] = kept.givenFor(i);
                } else if (lacking == NONE) {
                    variables[i] = make(ofTypes, NONE, NONE, 0);
                } else {
                    variables[i] = make(ofRows, NONE, NONE, lacking);
                }
            }
            // From the right: what a part needs has been built then and lies on the stack.
            work.clear();
            for (int i = kept.length - 1; i >= 0; i--) {
                work.push(buildPart(kept, i));
            }
            return work.pop();
        }

        private int buildPart(Kept kept, int i) {
            switch (kept.kindAt(i)) {
                case S_FUNCTION: {
                    int from = work.pop();
                    int to = work.pop();
                    return function(from, to);
                }
                case S_RECORD:
                case S_VARIANT:
                    for (int label = 0; label < LABELS; label++) {
                        boolean there = (kept.labelsAt(i) & (1 << label)) != 0;
                        types[label] = there ? work.pop() : NONE;
                    }
                    return withRow(kept.kindAt(i), rowOfTypes(kept.isOpen(i) ? work.pop() : closed()));
                case S_VARIABLE:
                case R_OPEN:
                    return variable(kept.aboutAt(i));
                default:
                    return number();
            }
        }

        void clearMarks() {
            mark++;
        }

        boolean isMarked(int node) {
            return node >= 0 && node < used && marks[node] == mark;
        }

        /** Marks all that a type or a row is made of. */
        void markAll(int root) {
            work.clear();
            work.push(root);
            for (int k = 0; k < LONG_LOOP && work.length() > 0; k++) {
                int node = look(work.pop());
                if (node < 0 || node >= used || marks[node] == mark) {
                    continue;
                }
                marks[node] = mark;
                int kind = kinds[node];
                if (kind == S_FUNCTION || kind == R_FIELD) {
                    work.push(firsts[node]);
                    work.push(seconds[node]);
                } else if (kind == S_RECORD || kind == S_VARIANT) {
                    work.push(firsts[node]);
                }
            }
        }

    }

    /** Unifies types; what is still to be done lies on a stack, as types may be deep. */
    private static final class Unifier {
        private static final int NOT_BEGUN = -1;

        private final Nodes nodes;
        private final Ints due = new Ints();
        private int fault;
        private int label;
        // A row may get a field, by what is within another field, when the label of it is past: the
        // document looks at each label once, so that then two rows are unified but not the same.
        private boolean becameSame;

        Unifier(Nodes nodes) {
            this.nodes = nodes;
        }

        /** 0, or the number of the fault; the label is NONE but for MISSING and TWICE. */
        int unify(int first, int other) {
            fault = 0;
            label = NONE;
            becameSame = true;
            due.clear();
            pushPair(first, other, NOT_BEGUN);
            for (int k = 0; k < LONG_LOOP && due.length() > 0 && fault == 0; k++) {
                nodes.makeRoom();
                int done = due.pop();
                int b = due.pop();
                int a = due.pop();
                if (done == NOT_BEGUN) {
                    beginPair(nodes.look(a), nodes.look(b));
                } else if (nodes.kindOf(a) == S_FUNCTION) {
                    goOnFunctions(a, b, done);
                } else {
                    goOnRows(a, b, done);
                }
            }
            return fault;
        }

        private void pushPair(int a, int b, int done) {
            due.push(a);
            due.push(b);
            due.push(done);
        }

        private void beginPair(int a, int b) {
            if (a == b) {
                return;
            }
            int kind = nodes.kindOf(a);
            if (kind == S_VARIABLE) {
                bind(a, b);
            } else if (nodes.kindOf(b) == S_VARIABLE) {
                bind(b, a);
            } else if (kind != nodes.kindOf(b) || kind == F_VARIABLE) {
                fault = CLASH;
            } else if (kind != S_NUMBER) {
                pushPair(a, b, 0);
            }
        }

        private void bind(int variable, int type) {
            nodes.clearMarks();
            nodes.markAll(type);
            if (nodes.isMarked(variable)) {
                fault = ENDLESS;
            } else {
                nodes.become(variable, type);
            }
        }

        private void goOnFunctions(int a, int b, int done) {
            if (done >= 2) {
                endPair(a, b, nodes.areSameFunctions(a, b));
                return;
            }
            pushPair(a, b, done + 1);
            if (done == 0) {
                pushPair(nodes.firstOf(a), nodes.firstOf(b), NOT_BEGUN);
            } else {
                pushPair(nodes.secondOf(a), nodes.secondOf(b), NOT_BEGUN);
            }
        }

        // Fields are looked for anew at each label: what was unified before may have put some there.
        private void goOnRows(int a, int b, int done) {
            for (int at = done; at < LABELS && fault == 0; at++) {
                int ofA = nodes.fieldOf(a, at);
                int ofB = nodes.fieldOf(b, at);
                if (ofA != NONE && ofB != NONE) {
                    pushPair(a, b, at + 1);
                    pushPair(ofA, ofB, NOT_BEGUN);
                    return;
                }
                if (ofA != NONE) {
                    takeField(nodes.endOf(b), nodes.endOf(a), at, ofA);
                } else if (ofB != NONE) {
                    takeField(nodes.endOf(a), nodes.endOf(b), at, ofB);
                }
            }
            if (fault == 0) {
                joinEnds(nodes.endOf(a), nodes.endOf(b));
            }
            if (fault == 0) {
                endPair(a, b, nodes.areSameRows(a, b));
            }
        }

        private void endPair(int a, int b, boolean same) {
            if (same) {
                nodes.become(nodes.look(a), nodes.look(b));
            } else {
                becameSame = false;
            }
        }

        private void takeField(int end, int otherEnd, int at, int type) {
            int lacking = nodes.bitsOf(end);
            nodes.clearMarks();
            nodes.markAll(type);
            if (nodes.kindOf(end) != R_OPEN) {
                fault = MISSING;
                label = at;
            } else if (end == otherEnd) {
                fault = ENDLESS;
            } else if ((lacking & (1 << at)) != 0) {
                fault = TWICE;
                label = at;
            } else if (nodes.isMarked(end)) {
                fault = ENDLESS;
            } else {
                nodes.become(end, nodes.fieldAhead(at, type, nodes.newEnd(lacking | 1 << at)));
            }
        }

        private void joinEnds(int a, int b) {
            if (a == b) {
                return;
            }
            boolean openA = nodes.kindOf(a) == R_OPEN;
            boolean openB = nodes.kindOf(b) == R_OPEN;
            if (openA && openB) {
                nodes.addBits(b, nodes.bitsOf(a));
                nodes.become(a, b);
            } else if (openA) {
                closeEnd(a, b);
            } else if (openB) {
                closeEnd(b, a);
            } else {
                fault = CLASH;
            }
        }

        // The other end is nothing, or one that can't become anything: that must lack as much.
        private void closeEnd(int end, int other) {
            boolean fixed = nodes.kindOf(other) == F_OPEN;
            if (fixed && (nodes.bitsOf(end) & ~nodes.bitsOf(other)) != 0) {
                fault = CLASH;
            } else {
                nodes.become(end, other);
            }
        }
    }

    /** Finds the type of an expression, from the left. */
    private static final class Finder {
        // A $ has five signs beside what is in it.
        private static final int MOST_SCHEMES = MOST_SIGNS / 5;

        private final Nodes nodes;
        private final Unifier unifier;
        private final Expression[] texts;
        private int definitions;
        private Expression expression;
        private final int[] found = new int[MOST_SIGNS];
        private final int[] boundNames = new int[MOST_SIGNS];
        // The type of a name of a function or a branch; of a name by $: its scheme, which is
        // its type, with the nodes of those variables that don't become new ones.
        private final int[] boundTypes = new int[MOST_SIGNS];
        private final Kept[] boundSchemes = new Kept[MOST_SIGNS];
        private int bound;
        private final Kept[] schemes = new Kept[MOST_SCHEMES];
        private int schemesUsed;
        private final Kept flat = new Kept();
        private int fault;
        private int faultPlace;
        private int faultLabel;

        Finder(Nodes nodes, Unifier unifier, Expression[] texts) {
            this.nodes = nodes;
            this.unifier = unifier;
            this.texts = texts;
            for (int i = 0; i < schemes.length; i++) {
                schemes[i] = new Kept();
            }
        }

        void begin(int at, int definitionsNow) {
            definitions = definitionsNow;
            fault = 0;
            faultPlace = 0;
            faultLabel = NONE;
            bound = 0;
            schemesUsed = 0;
            nodes.clear();
            expression = at >= 0 && at < texts.length ? texts[at] : null;
        }

        /** The type that the expression at a place has, as far as types have been found. */
        int typeAt(int place) {
            return place >= 0 && place < MOST_SIGNS ? found[place] : NONE;
        }

        private int fail(int number, int place) {
            fault = number;
            faultPlace = place;
            faultLabel = NONE;
            return NONE;
        }

        private int failUnified(int place) {
            fault = unifier.fault;
            faultPlace = place;
            faultLabel = unifier.label;
            return NONE;
        }

        /** The type of the expression at a place, and so of all in it; NONE: there is a fault. */
        private int find(int place, int depth) {
            if (expression == null || depth >= MOST_SIGNS || place < 0 || place >= MOST_SIGNS) {
                return fail(TOO_GREAT, 0);
            }
            int type;
            switch (expression.kindAt(place)) {
                case NUMBER: type = nodes.number(); break;
                case NAME: type = findName(place); break;
                case FUNCTION: type = findFunction(place, depth + 1); break;
                case CALL: type = findCall(place, depth + 1); break;
                case LET: type = findLet(place, depth + 1); break;
                case EMPTY: type = nodes.withRow(S_RECORD, nodes.closed()); break;
                case EXTEND: type = findExtend(place, depth + 1); break;
                case CHANGE: type = findChange(place, depth + 1); break;
                case JOIN: type = findJoin(place, depth + 1); break;
                case VARIANT: type = findVariant(place, depth + 1); break;
                default: type = findChoice(place, depth + 1); break;
            }
            // For what the expression around this one makes of its type.
            nodes.makeRoom();
            found[place] = type;
            if (type == NONE) {
                return NONE;
            }
            return nodes.flatten(type, flat) > MOST_SIZE ? fail(TOO_GREAT, place) : type;
        }

        private int findName(int place) {
            int name = expression.signAt(place);
            for (int i = bound - 1; i >= 0; i--) {
                if (boundNames[i] == name) {
                    Kept scheme = boundSchemes[i];
                    return scheme == null ? boundTypes[i] : nodes.load(scheme, false);
                }
            }
            int definition = name - 'p';
            if (definition < 0 || definition >= definitions || definition >= texts.length) {
                return fail(UNKNOWN, place);
            }
            return nodes.load(texts[definition].kept, false);
        }

        private void bind(int name, int type, Kept scheme) {
            if (bound < MOST_SIGNS) {
                boundNames[bound] = name;
                boundTypes[bound] = type;
                boundSchemes[bound] = scheme;
                bound++;
            }
        }

        private void unbind() {
            if (bound > 0) {
                bound--;
            }
        }

        private int findFunction(int place, int depth) {
            int from = nodes.newVariable();
            bind(expression.signAt(place + 1), from, null);
            int to = find(expression.firstPart(place), depth);
            unbind();
            return to == NONE ? NONE : nodes.function(from, to);
        }

        private int findCall(int place, int depth) {
            int first = find(expression.firstPart(place), depth);
            int other = first == NONE ? NONE : find(expression.secondPart(place), depth);
            if (other == NONE) {
                return NONE;
            }
            int to = nodes.newVariable();
            return unifier.unify(first, nodes.function(other, to)) == 0 ? to : failUnified(place);
        }

        private int findLet(int place, int depth) {
            int first = find(expression.firstPart(place), depth);
            if (first == NONE) {
                return NONE;
            }
            if (schemesUsed >= schemes.length) {
                return fail(TOO_GREAT, place);
            }
            Kept scheme = schemes[schemesUsed];
            schemesUsed++;
            generalise(first, scheme);
            bind(expression.signAt(place + 1), NONE, scheme);
            int type = find(expression.secondPart(place), depth);
            unbind();
            schemesUsed--;
            return type;
        }

        private void generalise(int type, Kept scheme) {
            nodes.flatten(type, scheme);
            nodes.clearMarks();
            for (int i = 0; i < bound; i++) {
                if (boundSchemes[i] == null) {
                    nodes.markAll(boundTypes[i]);
                }
            }
            for (int i = 0; i < scheme.variables; i++) {
                if (nodes.isMarked(nodes.variable(i))) {
                    scheme.give(i, nodes.variable(i));
                }
            }
        }

        private int findExtend(int place, int depth) {
            int first = find(expression.firstPart(place), depth);
            int other = first == NONE ? NONE : find(expression.secondPart(place), depth);
            if (other == NONE) {
                return NONE;
            }
            int label = expression.labelAt(place + 1);
            int end = nodes.newEnd(1 << label);
            if (unifier.unify(other, nodes.withRow(S_RECORD, end)) != 0) {
                return failUnified(place);
            }
            return nodes.withRow(S_RECORD, nodes.fieldAhead(label, first, end));
        }

        private int findChange(int place, int depth) {
            int inner = find(expression.firstPart(place), depth);
            if (inner == NONE) {
                return NONE;
            }
            int how = expression.signAt(place);
            int label = expression.labelAt(place + 1);
            int newLabel = how == '~' ? expression.labelAt(place + 2) : label;
            int type = nodes.newVariable();
            int end = nodes.newEnd(1 << label | 1 << newLabel);
            int record = nodes.withRow(S_RECORD, nodes.fieldAhead(label, type, end));
            if (unifier.unify(inner, record) != 0) {
                return failUnified(place);
            }
            if (how == '#') {
                return type;
            }
            return nodes.withRow(S_RECORD, how == '-' ? end : nodes.fieldAhead(newLabel, type, end));
        }

        private int findJoin(int place, int depth) {
            int first = find(expression.firstPart(place), depth);
            int other = first == NONE ? NONE : find(expression.secondPart(place), depth);
            if (other == NONE) {
                return NONE;
            }
            if (unifier.unify(first, nodes.withRow(S_RECORD, nodes.newEnd(0))) != 0
                    || unifier.unify(other, nodes.withRow(S_RECORD, nodes.newEnd(0))) != 0) {
                return failUnified(place);
            }
            boolean otherClosed = isClosed(other);
            if (!otherClosed && !isClosed(first)) {
                return fail(OPEN, place);
            }
            int closed = nodes.look(otherClosed ? other : first);
            int end = nodes.newEnd(nodes.labelsOf(closed));
            if (unifier.unify(otherClosed ? first : other, nodes.withRow(S_RECORD, end)) != 0) {
                return failUnified(place);
            }
            return nodes.withRow(S_RECORD, nodes.fieldsAhead(closed, end));
        }

        private boolean isClosed(int record) {
            return nodes.kindOf(nodes.endOf(nodes.look(record))) == R_CLOSED;
        }

        private int findVariant(int place, int depth) {
            int inner = find(expression.firstPart(place), depth);
            if (inner == NONE) {
                return NONE;
            }
            int label = expression.labelAt(place + 1);
            return nodes.withRow(S_VARIANT, nodes.fieldAhead(label, inner, nodes.newEnd(1 << label)));
        }

        private int findChoice(int place, int depth) {
            int inner = find(expression.firstPart(place), depth);
            if (inner == NONE) {
                return NONE;
            }
            int end = endOfChoice(place);
            int variant = nodes.withRow(S_VARIANT, fieldsOfChoice(place, end));
            if (unifier.unify(inner, variant) != 0) {
                return failUnified(place);
            }
            int result = nodes.newVariable();
            int branch = expression.linkAt(place);
            for (int k = 0; k < MOST_SIGNS && branch != NONE; k++) {
                int label = expression.labelAt(branch);
                int type = isLabel(label) ? nodes.fieldOf(variant, label)
                        : nodes.withRow(S_VARIANT, end);
                bind(expression.signAt(branch + 1), type, null);
                int met = find(branch + 3, depth);
                unbind();
                if (met == NONE) {
                    return NONE;
                }
                if (unifier.unify(met, result) != 0) {
                    return failUnified(branch);
                }
                branch = expression.linkAt(branch);
            }
            return result;
        }

        private int endOfChoice(int place) {
            int labels = 0;
            int branch = expression.linkAt(place);
            for (int k = 0; k < MOST_SIGNS && branch != NONE; k++) {
                int label = expression.labelAt(branch);
                if (!isLabel(label)) {
                    return nodes.newEnd(labels);
                }
                labels |= 1 << label;
                branch = expression.linkAt(branch);
            }
            return nodes.closed();
        }

        private int fieldsOfChoice(int place, int end) {
            int row = end;
            int branch = expression.linkAt(place);
            for (int k = 0; k < MOST_SIGNS && branch != NONE; k++) {
                int label = expression.labelAt(branch);
                if (isLabel(label)) {
                    row = nodes.fieldAhead(label, nodes.newVariable(), row);
                }
                branch = expression.linkAt(branch);
            }
            return row;
        }
    }

    /** Works out an expression; what is still to be done lies on a stack. */
    private static final class Machine {
        // Each step makes one value at most, and binds one name at most; and there is NOTHING.
        private static final int ROOM = MOST_STEPS + 2;
        // Two rows may be unified and yet differ, so that a part has not what its type says: a field
        // that is not there is NOTHING, and so is what can't be made of it; the steps go on.
        private static final int NOTHING = 0;
        // Above each sign that can be asked for; eight times as much is still a long.
        private static final long MOST_LENGTH = 1L << 40;
        private static final long MOST_TOLD = 2147483647;

        private final Expression[] texts;
        private int definitions;
        private final int[] sorts = new int[ROOM];
        // A number; the place of a function; the labels of a record; the label of a variant.
        private final int[] numbers = new int[ROOM];
        // The text of a function.
        private final int[] owners = new int[ROOM];
        // The names that a function knows; what is in a variant.
        private final int[] inners = new int[ROOM];
        private final int[] fields = new int[ROOM * LABELS];
        // How many signs a value has when it is written; 0: NOTHING is in it.
        private final long[] lengths = new long[ROOM];
        private int values;
        private final int[] names = new int[ROOM];
        private final int[] namedValues = new int[ROOM];
        private final int[] namesBehind = new int[ROOM];
        private int bindings;
        private final Ints due = new Ints();
        private final Ints done = new Ints();
        private int steps;
        private int result;

        Machine(Expression[] texts) {
            this.texts = texts;
        }

        /** Works out a text; the result counts if that doesn't take too many steps. */
        void run(int text, int definitionsNow) {
            definitions = definitionsNow;
            values = 0;
            bindings = 0;
            steps = 0;
            due.clear();
            done.clear();
            newValue(NONE, NONE, NONE, NONE);
            pushDue(text, 0, NONE, false);
            for (int k = 0; k < LONG_LOOP && due.length() > 0 && steps <= MOST_STEPS; k++) {
                boolean partsDone = due.pop() == 1;
                int known = due.pop();
                int place = due.pop();
                int at = due.pop();
                if (at < 0 || at >= texts.length) {
                    done.push(NOTHING);
                } else if (partsDone) {
                    finish(at, place, known);
                } else {
                    begin(at, place, known);
                }
            }
            result = done.pop();
            measure();
        }

        private void pushDue(int text, int place, int known, boolean partsDone) {
            due.push(text);
            due.push(place);
            due.push(known);
            due.push(partsDone ? 1 : 0);
        }

        private void begin(int text, int place, int known) {
            steps++;
            if (steps > MOST_STEPS) {
                return;
            }
            Expression expression = texts[text];
            int kind = expression.kindAt(place);
            if (kind == NUMBER) {
                done.push(newValue(S_NUMBER, expression.signAt(place) - '0', NONE, NONE));
            } else if (kind == NAME) {
                beginName(expression.signAt(place), known);
            } else if (kind == FUNCTION) {
                done.push(newValue(S_FUNCTION, place, text, known));
            } else if (kind == EMPTY) {
                done.push(newValue(S_RECORD, 0, NONE, NONE));
            } else {
                pushDue(text, place, known, true);
                if (kind == CALL || kind == EXTEND || kind == JOIN) {
                    pushDue(text, expression.secondPart(place), known, false);
                }
                pushDue(text, expression.firstPart(place), known, false);
            }
        }

        private void beginName(int name, int known) {
            int at = known;
            for (int k = 0; k < ROOM && at >= 0 && at < bindings; k++) {
                if (names[at] == name) {
                    done.push(namedValues[at]);
                    return;
                }
                at = namesBehind[at];
            }
            int definition = name - 'p';
            if (definition < 0 || definition >= definitions) {
                done.push(NOTHING);
            } else {
                pushDue(definition, 0, NONE, false);
            }
        }

        private void finish(int text, int place, int known) {
            Expression expression = texts[text];
            int last = done.pop();
            switch (expression.kindAt(place)) {
                case CALL:
                    finishCall(done.pop(), last);
                    break;
                case LET:
                    pushDue(text, expression.secondPart(place),
                            bind(expression.signAt(place + 1), last, known), false);
                    break;
                case EXTEND:
                    done.push(extended(last, expression.labelAt(place + 1), done.pop()));
                    break;
                case CHANGE:
                    done.push(changed(last, expression, place));
                    break;
                case JOIN:
                    done.push(joined(done.pop(), last));
                    break;
                case VARIANT:
                    done.push(newValue(S_VARIANT, expression.labelAt(place + 1), NONE, last));
                    break;
                default:
                    finishChoice(text, place, known, last);
                    break;
            }
        }

        private void finishCall(int function, int given) {
            if (sortOf(function) != S_FUNCTION || owners[function] < 0 || owners[function] >= texts.length) {
                done.push(NOTHING);
                return;
            }
            Expression expression = texts[owners[function]];
            int place = numbers[function];
            int known = bind(expression.signAt(place + 1), given, inners[function]);
            pushDue(owners[function], expression.firstPart(place), known, false);
        }

        private void finishChoice(int text, int place, int known, int variant) {
            Expression expression = texts[text];
            int branch = sortOf(variant) == S_VARIANT ? expression.linkAt(place) : NONE;
            for (int k = 0; k < MOST_SIGNS && branch != NONE; k++) {
                int label = expression.labelAt(branch);
                int given = isLabel(label) ? contentOf(variant, label) : variant;
                if (given != NONE) {
                    pushDue(text, branch + 3, bind(expression.signAt(branch + 1), given, known), false);
                    return;
                }
                branch = expression.linkAt(branch);
            }
            done.push(NOTHING);
        }

        private int bind(int name, int value, int known) {
            if (bindings >= ROOM) {
                return known;
            }
            names[bindings] = name;
            namedValues[bindings] = value;
            namesBehind[bindings] = known;
            bindings++;
            return bindings - 1;
        }

        private int newValue(int sort, int number, int owner, int inner) {
            if (values >= ROOM) {
                return NOTHING;
            }
            sorts[values] = sort;
            numbers[values] = number;
            owners[values] = owner;
            inners[values] = inner;
            for (int label = 0; label < LABELS; label++) {
                fields[values * LABELS + label] = NONE;
            }
            values++;
            return values - 1;
        }

        private void setField(int record, int label, int value) {
            if (sortOf(record) == S_RECORD && isLabel(label) && value != NONE) {
                fields[record * LABELS + label] = value;
                numbers[record] |= 1 << label;
            }
        }

        private int newRecord() {
            return newValue(S_RECORD, 0, NONE, NONE);
        }

        private void copyFields(int from, int to, int butLabel) {
            for (int label = 0; label < LABELS; label++) {
                if (label != butLabel) {
                    setField(to, label, contentOf(from, label));
                }
            }
        }

        private int extended(int record, int label, int value) {
            if (sortOf(record) != S_RECORD) {
                return NOTHING;
            }
            int wider = newRecord();
            copyFields(record, wider, label);
            setField(wider, label, value);
            return wider;
        }

        private int joined(int first, int other) {
            if (sortOf(first) != S_RECORD || sortOf(other) != S_RECORD) {
                return NOTHING;
            }
            int record = newRecord();
            copyFields(first, record, NONE);
            copyFields(other, record, NONE);
            return record;
        }

        // Without that field a record is left as it is by - and ~.
        private int changed(int record, Expression expression, int place) {
            int how = expression.signAt(place);
            int label = expression.labelAt(place + 1);
            if (sortOf(record) != S_RECORD) {
                return NOTHING;
            }
            int value = contentOf(record, label);
            if (how == '#') {
                return value == NONE ? NOTHING : value;
            }
            int left = newRecord();
            copyFields(record, left, label);
            if (how == '~') {
                setField(left, expression.labelAt(place + 2), value);
            }
            return left;
        }

        private void measure() {
            for (int value = 0; value < values; value++) {
                lengths[value] = Math.min(measured(value), MOST_LENGTH);
            }
        }

        // What a value is made of was made ahead of it, and so has been measured.
        private long measured(int value) {
            switch (sortOf(value)) {
                case S_NUMBER:
                case S_FUNCTION:
                    return 1;
                case S_RECORD:
                    return measuredRecord(value);
                case S_VARIANT: {
                    long inner = lengthOf(inners[value]);
                    return inner == 0 ? 0 : inner + 3;
                }
                default:
                    return 0;
            }
        }

        private long measuredRecord(int value) {
            long all = numberOf(value) == 0 ? 2 : 1;
            for (int label = 0; label < LABELS; label++) {
                int field = contentOf(value, label);
                if (field != NONE && lengthOf(field) == 0) {
                    return 0;
                }
                if (field != NONE) {
                    all += 3 + lengthOf(field);
                }
            }
            return all;
        }

        long lengthOf(int value) {
            return value >= 0 && value < values ? lengths[value] : 0;
        }

        /** How many signs the result has, as far as an int tells it; NONE: it can't be written. */
        int signsInAll() {
            long all = lengthOf(result);
            return all == 0 ? NONE : (int) Math.min(all, MOST_TOLD);
        }

        int sortOf(int value) {
            return value >= 0 && value < values ? sorts[value] : NONE;
        }

        int numberOf(int value) {
            int sort = sortOf(value);
            return sort == NONE || sort == S_FUNCTION ? NONE : numbers[value];
        }

        /** The field of a record; what is in a variant of that label; NONE: none such. */
        int contentOf(int value, int label) {
            int sort = sortOf(value);
            if (sort == S_RECORD && isLabel(label)) {
                return fields[value * LABELS + label];
            }
            return sort == S_VARIANT && numbers[value] == label ? inners[value] : NONE;
        }
    }

    /** Tells which names are free in an expression, and how deep it is. */
    private static final class Survey {
        private final Ints due = new Ints();
        private int freeNames;
        private int deepest;

        void look(Expression expression) {
            freeNames = 0;
            deepest = 0;
            due.clear();
            pushDue(0, 0, 1);
            for (int k = 0; k < LONG_LOOP && due.length() > 0; k++) {
                int depth = due.pop();
                int known = due.pop();
                lookAt(expression, due.pop(), known, depth);
            }
        }

        private void pushDue(int place, int known, int depth) {
            if (place != NONE) {
                due.push(place);
                due.push(known);
                due.push(depth);
            }
        }

        private void lookAt(Expression expression, int place, int known, int depth) {
            deepest = Math.max(deepest, depth);
            int kind = expression.kindAt(place);
            int name = nameBit(expression.signAt(place + 1));
            if (kind == NAME) {
                freeNames |= nameBit(expression.signAt(place)) & ~known;
                return;
            }
            pushDue(expression.firstPart(place), kind == FUNCTION ? known | name : known, depth + 1);
            pushDue(expression.secondPart(place), kind == LET ? known | name : known, depth + 1);
            int branch = kind == CHOICE ? expression.linkAt(place) : NONE;
            for (int k = 0; k < MOST_SIGNS && branch != NONE; k++) {
                pushDue(branch + 3, known | nameBit(expression.signAt(branch + 1)), depth + 1);
                branch = expression.linkAt(branch);
            }
        }
    }

    /** Writes types, where what is still to be written lies on a stack, and tells signs of values. */
    private static final class Scribe {
        // Above all signs: the next type; the sign is one of the part.
        private static final int NO_SIGN = 256;

        private final Ints due = new Ints();
        private final Ints signs = new Ints();
        // The part of a value in which the sign is, and which of its signs it is.
        private int part;
        private long signOfPart;

        Ints writeType(Kept kept) {
            signs.clear();
            due.clear();
            due.push(NO_SIGN);
            int at = 0;
            for (int k = 0; k < LONG_LOOP && due.length() > 0; k++) {
                int item = due.pop();
                if (item < NO_SIGN) {
                    signs.push(item);
                } else {
                    writePart(kept, at);
                    at++;
                }
            }
            return signs;
        }

        private void writePart(Kept kept, int at) {
            switch (kept.kindAt(at)) {
                case S_FUNCTION:
                    signs.push('(');
                    due.push(')');
                    due.push(NO_SIGN);
                    due.push('>');
                    due.push(NO_SIGN);
                    break;
                case S_RECORD:
                case S_VARIANT:
                    writeRow(kept, at);
                    break;
                case S_VARIABLE:
                case R_OPEN:
                    writeVariable(kept.aboutAt(at));
                    break;
                default:
                    signs.push('I');
                    break;
            }
        }

        private void writeRow(Kept kept, int at) {
            boolean record = kept.kindAt(at) == S_RECORD;
            int labels = kept.labelsAt(at);
            signs.push(record ? '{' : '<');
            due.push(record ? '}' : '>');
            if (kept.isOpen(at)) {
                due.push(NO_SIGN);
                due.push('|');
            }
            for (int label = LABELS - 1; label >= 0; label--) {
                if ((labels & (1 << label)) != 0) {
                    due.push(NO_SIGN);
                    due.push(':');
                    pushLabel(labels, label);
                }
            }
        }

        // A comma comes ahead of each label but the first one.
        private void pushLabel(int labels, int label) {
            due.push('A' + label);
            if ((labels & ((1 << label) - 1)) != 0) {
                due.push(',');
            }
        }

        private void writeVariable(int number) {
            signs.push('a' + Math.floorMod(number, 26));
            int round = number / 26;
            if (round >= 10) {
                signs.push('0' + round / 10);
            }
            if (round > 0) {
                signs.push('0' + round % 10);
            }
        }

        /** A sign of the result, found by how long its parts are: it may be too long to be written out. */
        int signOfValue(Machine machine, int i) {
            part = machine.result;
            signOfPart = i;
            int sign = NO_SIGN;
            for (int k = 0; k <= MOST_STEPS && sign == NO_SIGN; k++) {
                sign = signOrPart(machine, part, signOfPart);
            }
            return sign == NO_SIGN ? NONE : sign;
        }

        private int signOrPart(Machine machine, int value, long i) {
            if (i < 0 || i >= machine.lengthOf(value)) {
                return NONE;
            }
            switch (machine.sortOf(value)) {
                case S_NUMBER:
                    return '0' + machine.numberOf(value);
                case S_RECORD:
                    return signOfRecord(machine, value, i);
                case S_VARIANT:
                    return signOfVariant(machine, value, i);
                default:
                    return '\\';
            }
        }

        private int signOfRecord(Machine machine, int value, long i) {
            long left = i;
            for (int label = 0; label < LABELS; label++) {
                int field = machine.contentOf(value, label);
                // Ahead of a field: { or a comma, its label, =.
                long length = field == NONE ? 0 : 3 + machine.lengthOf(field);
                if (left >= length) {
                    left -= length;
                } else if (left >= 3) {
                    return goInto(field, left - 3);
                } else if (left > 0) {
                    return left == 1 ? 'A' + label : '=';
                } else {
                    return i == 0 ? '{' : ',';
                }
            }
            return i == 0 ? '{' : '}';
        }

        private int signOfVariant(Machine machine, int value, long i) {
            int label = machine.numberOf(value);
            if (i == machine.lengthOf(value) - 1) {
                return '>';
            }
            if (i < 2) {
                return i == 0 ? '<' : 'A' + label;
            }
            return goInto(machine.contentOf(value, label), i - 2);
        }

        private int goInto(int value, long i) {
            part = value;
            signOfPart = i;
            return NO_SIGN;
        }
    }
}
