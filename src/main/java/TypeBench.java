import java.util.Arrays;

/**
 * A bench for types of higher rank: terms with annotations get their types in two directions, by
 * ordered contexts and unknowns that are solved; types are compared by what can stand for what.
 */
public final class TypeBench {
    private static final int NONE = -1;
    private static final int LONGEST_TEXT = 60;
    private static final int MOST_BRACKETS = 8;
    private static final int MOST_UNKNOWNS = 1000;
    private static final int ALPHABET = 26;
    // No text of 60 bytes nests deeper than this: a level of an arrow takes two bytes of it.
    private static final int DEEPEST = 40;
    // A text makes at most 1,000 unknowns, half as many arrows for them, and some 1,500 nodes more.
    private static final int MOST_NODES = 4096;
    // Every text's first node: all units are this one.
    private static final int UNIT_NODE = 0;
    // A term of 60 bytes and the types in it nest some hundred deep, with two tasks a level.
    private static final int MOST_TASKS = 1024;
    // Far above what any text needs: two types that are compared have some thousand parts at most.
    private static final int MOST_STEPS = 1000000;
    private static final int LONGEST_ROW = 2147483647;

    // Kinds of types.
    private static final int UNIT = 0;
    private static final int ARROW = 1;
    private static final int FOR_ALL = 2;
    private static final int BOUND = 3;
    private static final int VARIABLE = 4;
    private static final int UNKNOWN = 5;
    // Kinds of things that stand in a context beside variables and unknowns.
    private static final int MARK = 6;
    private static final int TYPED_LETTER = 7;
    // Kinds of terms.
    private static final int ONE = 8;
    private static final int LETTER = 9;
    private static final int ABSTRACTION = 10;
    private static final int APPLICATION = 11;
    private static final int ANNOTATION = 12;

    // Kinds of tasks.
    private static final int CHECK = 0;
    private static final int FIND = 1;
    private static final int APPLY = 2;
    private static final int COMPARE = 3;
    private static final int COMPARE_FOUND = 4;
    private static final int SET_BELOW = 5;
    private static final int SET_ABOVE = 6;
    private static final int CUT = 7;
    private static final int ANSWER = 8;

    private final int[] tape = new int[LONGEST_TEXT];
    private int fed = 0;
    private int wrongAt = NONE;
    private final Nodes nodes = new Nodes();
    private final Reader reader = new Reader(nodes, tape);
    private final Judge judge = new Judge(nodes);
    private final Printer printer = new Printer(nodes);

    public TypeBench() {
    }

    public int feed(long bytes, int n) throws IllegalArgumentException, IllegalStateException {
        if (n < 1 || n > 8) {
            throw new IllegalArgumentException("n is not 1 .. 8");
        }
        if (fed + n > LONGEST_TEXT) {
            throw new IllegalStateException("the tape holds at most 60 bytes");
        }
        for (int shift = 8 * (n - 1); shift >= 0; shift -= 8) {
            tape[fed] = (int) ((bytes >>> shift) & 255L);
            fed++;
        }
        return fed;
    }

    public boolean infer() throws IllegalArgumentException {
        startText();
        int term = reader.wholeTerm();
        wrongAt = reader.wrongAt();
        if (wrongAt != NONE) {
            throw new IllegalArgumentException("the text is no term");
        }
        judge.askType(term);
        boolean typed = judge.decide();
        if (typed) {
            printer.show(judge.foundType());
        }
        return typed;
    }

    public boolean below() throws IllegalArgumentException {
        startText();
        int lower = reader.typeBeforeSign();
        int upper = reader.typeBehindSign();
        wrongAt = reader.wrongAt();
        if (wrongAt != NONE) {
            throw new IllegalArgumentException("the text is no pair of types");
        }
        judge.askBelow(lower, upper);
        boolean holds = judge.decide();
        printer.show(lower);
        return holds;
    }

    public int place() {
        return wrongAt;
    }

    public int size() {
        return printer.length();
    }

    public int out(int i) throws IndexOutOfBoundsException {
        if (i < 0 || i >= printer.length()) {
            throw new IndexOutOfBoundsException("no such byte is printed");
        }
        return printer.byteAt(i);
    }

    public int unknowns() {
        return judge.madeUnknowns();
    }

    public int solved() {
        return judge.solvedUnknowns();
    }

    private void startText() {
        nodes.clear();
        judge.clear();
        printer.clear();
        reader.start(fed);
        fed = 0;
    }

    /** The types, terms and things of a context that one text needs; the next text uses the rows again. */
    private static final class Nodes {
        private final int[] kinds = new int[MOST_NODES];
        // An arrow's left part, the rest of a FOR ALL, how many ! a bound variable skips,
        // an unknown's solution, a letter's type or byte, a term's first part.
        private final int[] lefts = new int[MOST_NODES];
        // An arrow's right part, an unknown's printed letter, the letter of a binding, a term's second part.
        private final int[] rights = new int[MOST_NODES];
        // How many ! would have to stand around a type to bind all that is not bound in it.
        private final int[] loose = new int[MOST_NODES];
        private final boolean[] simple = new boolean[MOST_NODES];
        private int used = 0;

        void clear() {
            used = 0;
            make(UNIT, NONE, NONE);
        }

        int make(int kind, int left, int right) {
            if (used >= MOST_NODES) {
                return NONE;
            }
            int node = used;
            used++;
            kinds[node] = kind;
            lefts[node] = left;
            rights[node] = right;
            loose[node] = 0;
            simple[node] = true;
            return node;
        }

        int bound(int skipped) {
            int node = make(BOUND, skipped, NONE);
            if (node != NONE) {
                loose[node] = skipped + 1;
            }
            return node;
        }

        int arrow(int left, int right) {
            if (!has(left) || !has(right)) {
                return NONE;
            }
            int node = make(ARROW, left, right);
            if (node != NONE) {
                loose[node] = Math.max(loose[left], loose[right]);
                simple[node] = simple[left] && simple[right];
            }
            return node;
        }

        int forAll(int rest) {
            if (!has(rest)) {
                return NONE;
            }
            int node = make(FOR_ALL, rest, NONE);
            if (node != NONE) {
                loose[node] = Math.max(loose[rest] - 1, 0);
                simple[node] = false;
            }
            return node;
        }

        boolean has(int node) {
            return node >= 0 && node < used;
        }

        int kind(int node) {
            return has(node) ? kinds[node] : NONE;
        }

        int left(int node) {
            return has(node) ? lefts[node] : NONE;
        }

        int right(int node) {
            return has(node) ? rights[node] : NONE;
        }

        // Solutions are always simple, so a solved unknown inside never changes this.
        boolean isSimple(int node) {
            return has(node) && simple[node];
        }

        void solve(int unknown, int type) {
            if (has(unknown)) {
                lefts[unknown] = type;
            }
        }

        void name(int unknown, int letter) {
            if (has(unknown)) {
                rights[unknown] = letter;
            }
        }

        /** The type that a type stands for at its top: itself, or the end of a chain of solutions. */
        int shown(int type) {
            int end = type;
            for (int i = 0; i < MOST_NODES; i++) {
                if (end < 0 || end >= used || kinds[end] != UNKNOWN || lefts[end] == NONE) {
                    return end;
                }
                end = lefts[end];
            }
            return end;
        }

        /** The rest of a FOR ALL, with a type in the place of its variable. */
        int open(int forAll, int by) {
            if (kind(forAll) != FOR_ALL || !has(by)) {
                return NONE;
            }
            return replaced(left(forAll), 0, by, 0);
        }

        private int replaced(int type, int skipped, int by, int level) {
            if (!has(type) || level > DEEPEST) {
                return NONE;
            }
            if (loose[type] <= skipped) {
                return type;
            }
            if (kinds[type] == ARROW) {
                int left = replaced(lefts[type], skipped, by, level + 1);
                return arrow(left, replaced(rights[type], skipped, by, level + 1));
            }
            if (kinds[type] == FOR_ALL) {
                return forAll(replaced(lefts[type], skipped + 1, by, level + 1));
            }
            return by;
        }
    }

    /** Reads the tape into nodes, up to the first byte with which it can't be right. */
    private static final class Reader {
        private static final int END = -1;

        private final Nodes nodes;
        private final int[] text;
        private final int[] termBinders = new int[ALPHABET];
        private final int[] typeBinders = new int[LONGEST_TEXT];
        private int openTypeBinders = 0;
        private int length = 0;
        private int next = 0;
        private int brackets = 0;
        private int wrong = NONE;

        Reader(Nodes nodes, int[] text) {
            this.nodes = nodes;
            this.text = text;
        }

        void start(int count) {
            length = Math.min(count, text.length);
            next = 0;
            brackets = 0;
            wrong = NONE;
            openTypeBinders = 0;
            Arrays.fill(termBinders, 0);
        }

        int wrongAt() {
            return wrong;
        }

        int wholeTerm() {
            int term = term(0);
            return term != NONE && peek() != END ? refuse() : term;
        }

        int typeBeforeSign() {
            int type = type(0);
            if (type == NONE) {
                return NONE;
            }
            return take('<') ? type : refuse();
        }

        int typeBehindSign() {
            if (wrong != NONE) {
                return NONE;
            }
            int type = type(0);
            return type != NONE && peek() != END ? refuse() : type;
        }

        private int peek() {
            while (next < length && text[next] == ' ') {
                next++;
            }
            return next < length ? text[next] : END;
        }

        private boolean take(int sign) {
            if (peek() != sign) {
                return false;
            }
            next++;
            return true;
        }

        private int refuse() {
            wrong = next;
            return NONE;
        }

        private static boolean isLetter(int sign) {
            return sign >= 'a' && sign <= 'z';
        }

        private static boolean startsTermAtom(int sign) {
            return sign == '1' || sign == '\\' || sign == '(' || isLetter(sign);
        }

        private int term(int level) {
            int whole = termAtom(level);
            for (int atoms = 1; atoms <= LONGEST_TEXT && whole != NONE && startsTermAtom(peek()); atoms++) {
                int argument = termAtom(level);
                whole = argument == NONE ? NONE : nodes.make(APPLICATION, whole, argument);
            }
            return whole;
        }

        private int termAtom(int level) {
            int sign = peek();
            if (level > DEEPEST) {
                return refuse();
            }
            if (sign == '1') {
                next++;
                return nodes.make(ONE, NONE, NONE);
            }
            if (sign == '\\') {
                return abstraction(level);
            }
            if (sign == '(') {
                return termInBrackets(level);
            }
            if (!isLetter(sign) || termBinders[sign - 'a'] == 0) {
                return refuse();
            }
            next++;
            return nodes.make(LETTER, sign, NONE);
        }

        private int abstraction(int level) {
            next++;
            int letter = letterAndPoint();
            if (letter == NONE) {
                return NONE;
            }
            termBinders[letter - 'a']++;
            int body = term(level + 1);
            termBinders[letter - 'a']--;
            return body == NONE ? NONE : nodes.make(ABSTRACTION, body, letter);
        }

        private int letterAndPoint() {
            int letter = peek();
            if (!isLetter(letter)) {
                return refuse();
            }
            next++;
            return take('.') ? letter : refuse();
        }

        private int termInBrackets(int level) {
            if (brackets >= MOST_BRACKETS) {
                return refuse();
            }
            next++;
            brackets++;
            int inner = term(level + 1);
            if (inner != NONE && take(':')) {
                int type = type(level + 1);
                inner = type == NONE ? NONE : nodes.make(ANNOTATION, inner, type);
            }
            return closed(inner);
        }

        private int closed(int inner) {
            if (inner == NONE) {
                return NONE;
            }
            brackets--;
            return take(')') ? inner : refuse();
        }

        private int type(int level) {
            int left = typeAtom(level);
            if (left == NONE || !take('>')) {
                return left;
            }
            return nodes.arrow(left, type(level + 1));
        }

        private int typeAtom(int level) {
            int sign = peek();
            if (level > DEEPEST) {
                return refuse();
            }
            if (sign == '1') {
                next++;
                return UNIT_NODE;
            }
            if (sign == '!') {
                return forAll(level);
            }
            if (sign == '(') {
                return typeInBrackets(level);
            }
            return isLetter(sign) ? typeLetter(sign) : refuse();
        }

        private int forAll(int level) {
            next++;
            int letter = letterAndPoint();
            if (letter == NONE || openTypeBinders >= typeBinders.length) {
                return NONE;
            }
            typeBinders[openTypeBinders] = letter;
            openTypeBinders++;
            int rest = type(level + 1);
            openTypeBinders--;
            return nodes.forAll(rest);
        }

        private int typeInBrackets(int level) {
            if (brackets >= MOST_BRACKETS) {
                return refuse();
            }
            next++;
            brackets++;
            return closed(type(level + 1));
        }

        private int typeLetter(int letter) {
            for (int skipped = 0; skipped < openTypeBinders; skipped++) {
                if (typeBinders[openTypeBinders - 1 - skipped] == letter) {
                    next++;
                    return nodes.bound(skipped);
                }
            }
            return refuse();
        }
    }

    /** The ordered row of variables, unknowns, marks and typed letters; later ones stand behind. */
    private static final class Context {
        private final Nodes nodes;
        private final int[] row = new int[MOST_NODES];
        // Only what has stood in this text's context is ever looked up, so old places do no harm.
        private final int[] places = new int[MOST_NODES];
        private int length = 0;

        Context(Nodes nodes) {
            this.nodes = nodes;
        }

        void clear() {
            length = 0;
        }

        int add(int node) {
            if (!nodes.has(node) || length >= row.length) {
                return NONE;
            }
            row[length] = node;
            places[node] = length;
            length++;
            return node;
        }

        int addBefore(int node, int other) {
            int place = placeOf(other);
            if (place == NONE || add(node) == NONE) {
                return NONE;
            }
            for (int i = length - 1; i > place; i--) {
                row[i] = row[i - 1];
                places[row[i]] = i;
            }
            row[place] = node;
            places[node] = place;
            return node;
        }

        void cutAt(int node) {
            int place = placeOf(node);
            if (place == NONE) {
                return;
            }
            for (int i = place; i < length; i++) {
                places[row[i]] = NONE;
            }
            length = place;
        }

        boolean isBefore(int node, int other) {
            int place = placeOf(node);
            return place != NONE && place < placeOf(other);
        }

        int typeOfLast(int letter) {
            for (int i = length - 1; i >= 0; i--) {
                if (nodes.kind(row[i]) == TYPED_LETTER && nodes.right(row[i]) == letter) {
                    return nodes.left(row[i]);
                }
            }
            return NONE;
        }

        private int placeOf(int node) {
            return nodes.has(node) ? places[node] : NONE;
        }
    }

    /**
     * Looks for variables and unknowns in a type. Solved unknowns let parts be shared, so that a type
     * may be far larger than its nodes; each node is therefore visited once only.
     */
    private static final class Search {
        private final Nodes nodes;
        private final Context context;
        private final int[] waiting = new int[MOST_NODES];
        private final int[] visits = new int[MOST_NODES];
        private int count = 0;
        private int visit = 0;

        Search(Nodes nodes, Context context) {
            this.nodes = nodes;
            this.context = context;
        }

        boolean holds(int type, int unknown) {
            start(type);
            for (int i = 0; i < MOST_NODES && count > 0; i++) {
                if (nextNode() == unknown) {
                    return true;
                }
            }
            return false;
        }

        boolean allBefore(int type, int unknown) {
            start(type);
            for (int i = 0; i < MOST_NODES && count > 0; i++) {
                int node = nextNode();
                int kind = nodes.kind(node);
                if ((kind == VARIABLE || kind == UNKNOWN) && !context.isBefore(node, unknown)) {
                    return false;
                }
            }
            return true;
        }

        private void start(int type) {
            visit++;
            count = 0;
            await(type);
        }

        private int nextNode() {
            count--;
            int node = waiting[count];
            int kind = nodes.kind(node);
            if (kind == ARROW) {
                await(nodes.right(node));
            }
            if (kind == ARROW || kind == FOR_ALL) {
                await(nodes.left(node));
            }
            return node;
        }

        private void await(int type) {
            int node = nodes.shown(type);
            if (!nodes.has(node) || visits[node] == visit || count >= waiting.length) {
                return;
            }
            visits[node] = visit;
            waiting[count] = node;
            count++;
        }
    }

    /**
     * The judgements, as tasks that wait on a pile: types grow deeper than calls may stand open.
     * A part that could not be made is NONE, and a task with such a part means that there is no type.
     */
    private static final class Judge {
        private final Nodes nodes;
        private final Context context;
        private final Search search;
        private final int[] tasks = new int[MOST_TASKS];
        private final int[] firsts = new int[MOST_TASKS];
        private final int[] seconds = new int[MOST_TASKS];
        private int waiting = 0;
        private boolean failed = false;
        private int found = NONE;
        private int made = 0;
        private int solvedOnes = 0;

        Judge(Nodes nodes) {
            this.nodes = nodes;
            this.context = new Context(nodes);
            this.search = new Search(nodes, context);
        }

        void clear() {
            context.clear();
            waiting = 0;
            failed = false;
            found = NONE;
            made = 0;
            solvedOnes = 0;
        }

        void askType(int term) {
            put(FIND, term, 0);
        }

        void askBelow(int lower, int upper) {
            put(COMPARE, lower, upper);
        }

        boolean decide() {
            for (int steps = 0; steps < MOST_STEPS && waiting > 0 && !failed; steps++) {
                waiting--;
                step(tasks[waiting], firsts[waiting], seconds[waiting]);
            }
            return waiting == 0 && !failed;
        }

        int foundType() {
            return found;
        }

        int madeUnknowns() {
            return made;
        }

        int solvedUnknowns() {
            return solvedOnes;
        }

        private void put(int task, int first, int second) {
            if (first == NONE || second == NONE || waiting >= MOST_TASKS) {
                failed = true;
                return;
            }
            tasks[waiting] = task;
            firsts[waiting] = first;
            seconds[waiting] = second;
            waiting++;
        }

        // What a case puts last is done first.
        private void step(int task, int first, int second) {
            switch (task) {
                case CHECK:
                    check(first, nodes.shown(second));
                    break;
                case FIND:
                    find(first);
                    break;
                case APPLY:
                    apply(nodes.shown(found), first);
                    break;
                case COMPARE:
                    compare(nodes.shown(first), nodes.shown(second));
                    break;
                case COMPARE_FOUND:
                    compare(nodes.shown(found), nodes.shown(first));
                    break;
                case SET_BELOW:
                case SET_ABOVE:
                    set(first, nodes.shown(second), task);
                    break;
                case CUT:
                    context.cutAt(first);
                    break;
                case ANSWER:
                    found = first;
                    break;
                default:
                    failed = true;
                    break;
            }
        }

        private void check(int term, int type) {
            int form = nodes.kind(term);
            int kind = nodes.kind(type);
            if (kind == FOR_ALL) {
                int variable = newBehind(VARIABLE);
                put(CUT, variable, 0);
                put(CHECK, term, nodes.open(type, variable));
            } else if (form == ABSTRACTION && kind == ARROW) {
                put(CUT, bind(nodes.right(term), nodes.left(type)), 0);
                put(CHECK, nodes.left(term), nodes.right(type));
            } else if (form != ONE || kind != UNIT) {
                put(COMPARE_FOUND, type, 0);
                put(FIND, term, 0);
            }
        }

        private void find(int term) {
            switch (nodes.kind(term)) {
                case ONE:
                    found = UNIT_NODE;
                    break;
                case LETTER:
                    put(ANSWER, context.typeOfLast(nodes.left(term)), 0);
                    break;
                case ANNOTATION:
                    put(ANSWER, nodes.right(term), 0);
                    put(CHECK, nodes.left(term), nodes.right(term));
                    break;
                case ABSTRACTION:
                    findAbstraction(term);
                    break;
                case APPLICATION:
                    put(APPLY, nodes.right(term), 0);
                    put(FIND, nodes.left(term), 0);
                    break;
                default:
                    failed = true;
                    break;
            }
        }

        private void findAbstraction(int term) {
            int argument = context.add(newUnknown());
            int result = context.add(newUnknown());
            put(ANSWER, nodes.arrow(argument, result), 0);
            put(CUT, bind(nodes.right(term), argument), 0);
            put(CHECK, nodes.left(term), result);
        }

        private void apply(int type, int argument) {
            switch (nodes.kind(type)) {
                case FOR_ALL:
                    put(APPLY, argument, 0);
                    put(ANSWER, nodes.open(type, context.add(newUnknown())), 0);
                    break;
                case UNKNOWN:
                    applyArrow(split(type), argument);
                    break;
                case ARROW:
                    applyArrow(type, argument);
                    break;
                default:
                    failed = true;
                    break;
            }
        }

        private void applyArrow(int arrow, int argument) {
            put(ANSWER, nodes.right(arrow), 0);
            put(CHECK, argument, nodes.left(arrow));
        }

        private void compare(int lower, int upper) {
            // A simple type is below itself without a trace; a large one is not walked for that.
            if (lower == upper && nodes.isSimple(lower)) {
                return;
            }
            int low = nodes.kind(lower);
            int high = nodes.kind(upper);
            if (high == FOR_ALL) {
                int variable = newBehind(VARIABLE);
                put(CUT, variable, 0);
                put(COMPARE, lower, nodes.open(upper, variable));
            } else if (low == FOR_ALL) {
                put(CUT, newBehind(MARK), 0);
                put(COMPARE, nodes.open(lower, context.add(newUnknown())), upper);
            } else if (low == UNKNOWN && !search.holds(upper, lower)) {
                put(SET_BELOW, lower, upper);
            } else if (high == UNKNOWN && !search.holds(lower, upper)) {
                put(SET_ABOVE, upper, lower);
            } else if (low == ARROW && high == ARROW) {
                put(COMPARE, nodes.right(lower), nodes.right(upper));
                put(COMPARE, nodes.left(upper), nodes.left(lower));
            } else {
                failed = true;
            }
        }

        private void set(int unknown, int type, int task) {
            int kind = nodes.kind(type);
            if (nodes.isSimple(type) && search.allBefore(type, unknown)) {
                solve(unknown, type);
            } else if (kind == UNKNOWN && context.isBefore(unknown, type)) {
                solve(type, unknown);
            } else if (kind == ARROW) {
                int arrow = split(unknown);
                put(task, nodes.right(arrow), nodes.right(type));
                put(task == SET_BELOW ? SET_ABOVE : SET_BELOW, nodes.left(arrow), nodes.left(type));
            } else if (kind == FOR_ALL && task == SET_BELOW) {
                int variable = newBehind(VARIABLE);
                put(CUT, variable, 0);
                put(task, unknown, nodes.open(type, variable));
            } else if (kind == FOR_ALL) {
                put(CUT, newBehind(MARK), 0);
                put(task, unknown, nodes.open(type, context.add(newUnknown())));
            } else {
                failed = true;
            }
        }

        /** Solves an unknown by an arrow of two new ones that come in its place; NONE where one is too many. */
        private int split(int unknown) {
            int result = context.addBefore(newUnknown(), unknown);
            int argument = context.addBefore(newUnknown(), unknown);
            int arrow = nodes.arrow(argument, result);
            if (arrow != NONE) {
                solve(unknown, arrow);
            }
            return arrow;
        }

        private void solve(int unknown, int type) {
            nodes.solve(unknown, type);
            solvedOnes++;
        }

        private int newUnknown() {
            if (made >= MOST_UNKNOWNS) {
                return NONE;
            }
            made++;
            return nodes.make(UNKNOWN, NONE, NONE);
        }

        private int newBehind(int kind) {
            return context.add(nodes.make(kind, NONE, NONE));
        }

        private int bind(int letter, int type) {
            return context.add(nodes.make(TYPED_LETTER, type, letter));
        }
    }

    /**
     * The printed row. It may have millions of bytes, as parts are shared, so it is never written out:
     * the length of each part is kept, and a byte is found from the top down.
     */
    private static final class Printer {
        private final Nodes nodes;
        private final int[] lengths = new int[MOST_NODES];
        private final int[] path = new int[MOST_NODES];
        private int depth = 0;
        private int root = NONE;
        private int names = 0;

        Printer(Nodes nodes) {
            this.nodes = nodes;
        }

        void clear() {
            root = NONE;
        }

        void show(int type) {
            Arrays.fill(lengths, 0);
            names = 0;
            root = nodes.shown(type);
            depth = 0;
            descend(root);
            // A node is looked at once more for each of its parts.
            for (int i = 0; i < 3 * MOST_NODES && depth > 0; i++) {
                measure(path[depth - 1]);
            }
        }

        int length() {
            return lengthOf(root);
        }

        int byteAt(int index) {
            int node = root;
            int rest = index;
            for (int i = 0; i < MOST_NODES && rest > 0; i++) {
                rest--;
                int left = nodes.shown(nodes.left(node));
                if (rest < lengthOf(left)) {
                    node = left;
                } else {
                    rest -= lengthOf(left);
                    node = nodes.shown(nodes.right(node));
                }
            }
            return sign(node);
        }

        private int lengthOf(int node) {
            return nodes.has(node) ? lengths[node] : 0;
        }

        private void descend(int node) {
            if (nodes.has(node) && depth < path.length) {
                path[depth] = node;
                depth++;
            }
        }

        // The left part is measured whole before the right one: unknowns are named in printed order.
        private void measure(int node) {
            int kind = nodes.kind(node);
            int left = kind == ARROW || kind == FOR_ALL ? nodes.shown(nodes.left(node)) : NONE;
            int right = kind == ARROW ? nodes.shown(nodes.right(node)) : NONE;
            if (left != NONE && lengthOf(left) == 0) {
                descend(left);
            } else if (right != NONE && lengthOf(right) == 0) {
                descend(right);
            } else {
                long length = 1L + lengthOf(left) + lengthOf(right);
                lengths[node] = (int) Math.min(length, LONGEST_ROW);
                depth--;
                nameUnknown(node);
            }
        }

        private void nameUnknown(int node) {
            if (nodes.kind(node) == UNKNOWN) {
                nodes.name(node, 'a' + names);
                names++;
            }
        }

        private int sign(int node) {
            switch (nodes.kind(node)) {
                case UNIT:
                    return '1';
                case ARROW:
                    return '>';
                case FOR_ALL:
                    return '!';
                case BOUND:
                    return '0' + Math.min(nodes.left(node), 9);
                default:
                    return nodes.right(node);
            }
        }
    }
}
