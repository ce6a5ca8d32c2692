import java.util.ArrayList;
import java.util.IdentityHashMap;
import java.util.List;
import java.util.Map;

/**
 * The document a second time, as plainly as it is written: trees, lists and recursion, and the wrong byte
 * found byte by byte. It shares nothing with the class; where a type grows too large for it, it gives up.
 */
final class SecondReading {
    private static final int MOST_VISITS = 2_000_000;
    private static final int LONGEST_ROW = 200_000;

    private interface Type { }

    private record One() implements Type { }

    private record Arrow(Type left, Type right) implements Type { }

    private record ForAll(Variable letter, Type rest) implements Type { }

    private static final class Variable implements Type { }

    private static final class Unknown implements Type {
        private Type solution = null;
    }

    private interface Term { }

    private record OneTerm() implements Term { }

    private record Letter(char name) implements Term { }

    private record Abstraction(char name, Term body) implements Term { }

    private record Application(Term function, Term argument) implements Term { }

    private record Annotation(Term term, Type type) implements Term { }

    private static final class Mark { }

    private static final class Typed {
        private final char name;
        private final Type type;

        Typed(char name, Type type) {
            this.name = name;
            this.type = type;
        }
    }

    private static final class NoType extends RuntimeException {
        private static final long serialVersionUID = 1L;

        NoType() {
            super(null, null, false, false);
        }
    }

    /** A type is too large for this plain way. */
    static final class TooLarge extends RuntimeException {
        private static final long serialVersionUID = 1L;

        TooLarge() {
            super(null, null, false, false);
        }
    }

    private final String text;
    private int next = 0;
    private final List<Object> context = new ArrayList<>();
    private int made = 0;
    private int solved = 0;
    private int visits = 0;
    private final StringBuilder row = new StringBuilder();
    private final Map<Unknown, Character> names = new IdentityHashMap<>();

    private SecondReading(String text) {
        this.text = text;
    }

    /** The answer and all that can be seen after it, in the form of Bench.told. */
    static String told(String call, String text) {
        int place = new WrongByte(call.equals("below")).in(text);
        if (place >= 0) {
            return Bench.ILLEGAL_ARGUMENT + " " + place + " [] 0 0";
        }
        SecondReading reading = new SecondReading(text.replace(" ", ""));
        boolean answer = call.equals("infer") ? reading.infer() : reading.below();
        return answer + " -1 [" + reading.row + "] " + reading.made + " " + reading.solved;
    }

    private boolean infer() {
        Term term = readTerm();
        try {
            print(find(term), new ArrayList<>());
            return true;
        } catch (NoType e) {
            return false;
        }
    }

    private boolean below() {
        Type first = readType(new ArrayList<>(), new StringBuilder());
        next++;
        Type second = readType(new ArrayList<>(), new StringBuilder());
        print(first, new ArrayList<>());
        try {
            isBelow(first, second);
            return true;
        } catch (NoType e) {
            return false;
        }
    }

    /** Takes a text byte by byte, and knows at each what may come next. */
    private static final class WrongByte {
        private enum Due { ATOM, LETTER, POINT, REST }

        private final boolean pair;
        private Due due = Due.ATOM;
        private boolean inType;
        private boolean signSeen = false;
        private String termLetters = "";
        private String typeLetters = "";
        // One of t (a term), a (behind its colon) and y (a type) for each bracket, and the letters before it.
        private String brackets = "";
        private final List<String> before = new ArrayList<>();

        WrongByte(boolean pair) {
            this.pair = pair;
            this.inType = pair;
        }

        int in(String text) {
            for (int i = 0; i < text.length(); i++) {
                char sign = text.charAt(i);
                if (sign != ' ' && !takes(sign)) {
                    return i;
                }
            }
            boolean whole = due == Due.REST && brackets.isEmpty() && signSeen == pair;
            return whole ? -1 : text.length();
        }

        private boolean takes(char sign) {
            switch (due) {
                case ATOM:
                    return takesAtom(sign);
                case LETTER:
                    return sign >= 'a' && sign <= 'z' && bind(sign);
                case POINT:
                    return sign == '.' && goOn(Due.ATOM);
                default:
                    return takesRest(sign) || !inType && takesAtom(sign);
            }
        }

        private boolean goOn(Due other) {
            due = other;
            return true;
        }

        private boolean bind(char letter) {
            if (inType) {
                typeLetters += letter;
            } else {
                termLetters += letter;
            }
            return goOn(Due.POINT);
        }

        private boolean takesAtom(char sign) {
            if (sign == '(') {
                return open();
            }
            if (sign == (inType ? '!' : '\\')) {
                return goOn(Due.LETTER);
            }
            String letters = inType ? typeLetters : termLetters;
            return (sign == '1' || letters.indexOf(sign) >= 0) && goOn(Due.REST);
        }

        private boolean open() {
            if (brackets.length() == 8) {
                return false;
            }
            brackets += inType ? 'y' : 't';
            before.add(inType ? typeLetters : termLetters);
            return goOn(Due.ATOM);
        }

        private boolean takesRest(char sign) {
            if (sign == ')' && !brackets.isEmpty()) {
                return close();
            }
            if (sign == ':' && brackets.endsWith("t")) {
                brackets = brackets.substring(0, brackets.length() - 1) + 'a';
                inType = true;
                typeLetters = "";
                return goOn(Due.ATOM);
            }
            if (sign == '<' && pair && brackets.isEmpty() && !signSeen) {
                signSeen = true;
                typeLetters = "";
                return goOn(Due.ATOM);
            }
            return sign == '>' && inType && goOn(Due.ATOM);
        }

        private boolean close() {
            int last = brackets.length() - 1;
            String letters = before.remove(last);
            if (brackets.charAt(last) == 'y') {
                typeLetters = letters;
            } else {
                termLetters = letters;
                inType = false;
            }
            brackets = brackets.substring(0, last);
            return goOn(Due.REST);
        }
    }

    // The trees of a right text, without its blanks.

    private char peek() {
        return next < text.length() ? text.charAt(next) : ')';
    }

    private Term readTerm() {
        Term whole = readTermAtom();
        while (peek() != ')' && peek() != ':') {
            whole = new Application(whole, readTermAtom());
        }
        return whole;
    }

    private Term readTermAtom() {
        char sign = text.charAt(next++);
        if (sign == '1') {
            return new OneTerm();
        }
        if (sign == '\\') {
            char name = text.charAt(next);
            next += 2;
            return new Abstraction(name, readTerm());
        }
        if (sign != '(') {
            return new Letter(sign);
        }
        Term inner = readTerm();
        if (peek() == ':') {
            next++;
            inner = new Annotation(inner, readType(new ArrayList<>(), new StringBuilder()));
        }
        next++;
        return inner;
    }

    private Type readType(List<Variable> bound, StringBuilder letters) {
        Type left = readTypeAtom(bound, letters);
        if (peek() != '>') {
            return left;
        }
        next++;
        return new Arrow(left, readType(bound, letters));
    }

    private Type readTypeAtom(List<Variable> bound, StringBuilder letters) {
        char sign = text.charAt(next++);
        if (sign == '1') {
            return new One();
        }
        if (sign == '(') {
            Type inner = readType(bound, letters);
            next++;
            return inner;
        }
        if (sign != '!') {
            return bound.get(letters.lastIndexOf(String.valueOf(sign)));
        }
        Variable letter = new Variable();
        bound.add(letter);
        letters.append(text.charAt(next));
        next += 2;
        Type rest = readType(bound, letters);
        bound.remove(bound.size() - 1);
        letters.setLength(letters.length() - 1);
        return new ForAll(letter, rest);
    }

    // A CONTEXT is a row; later ones stand behind.

    private <T> T behind(T thing) {
        context.add(thing);
        return thing;
    }

    private int placeOf(Object thing) {
        for (int i = 0; i < context.size(); i++) {
            if (context.get(i) == thing) {
                return i;
            }
        }
        throw new IllegalStateException("it is gone from the context");
    }

    private void cutAt(Object thing) {
        context.subList(placeOf(thing), context.size()).clear();
    }

    // At most 1,000 unknowns are made for a text; where one more would be, there is no type.
    private Unknown newUnknown() {
        if (made == 1000) {
            throw new NoType();
        }
        made++;
        return new Unknown();
    }

    private void solve(Unknown unknown, Type type) {
        unknown.solution = type;
        solved++;
    }

    /** In u's place come u2, u1 and u, solved by u1 > u2. */
    private Arrow split(Unknown u) {
        Unknown u2 = newUnknown();
        Unknown u1 = newUnknown();
        context.addAll(placeOf(u), List.of(u2, u1));
        Arrow arrow = new Arrow(u1, u2);
        solve(u, arrow);
        return arrow;
    }

    // A solved unknown stands for its type wherever it stands.
    private Type meant(Type type) {
        visits++;
        if (visits > MOST_VISITS) {
            throw new TooLarge();
        }
        return type instanceof Unknown u && u.solution != null ? meant(u.solution) : type;
    }

    // What solves an unknown is never bound by a !, so only what stands in the text is looked at.
    private Type with(Type type, Variable letter, Type by) {
        if (type instanceof Arrow arrow) {
            return new Arrow(with(arrow.left, letter, by), with(arrow.right, letter, by));
        }
        if (type instanceof ForAll all) {
            return new ForAll(all.letter, with(all.rest, letter, by));
        }
        return type == letter ? by : type;
    }

    private boolean isSimple(Type part) {
        Type type = meant(part);
        return type instanceof Arrow arrow ? isSimple(arrow.left) && isSimple(arrow.right) : !(type instanceof ForAll);
    }

    private boolean isIn(Unknown u, Type part) {
        Type type = meant(part);
        if (type instanceof Arrow arrow) {
            return isIn(u, arrow.left) || isIn(u, arrow.right);
        }
        return type instanceof ForAll all ? isIn(u, all.rest) : type == u;
    }

    private boolean allBefore(Type part, Unknown u) {
        Type type = meant(part);
        if (type instanceof Arrow arrow) {
            return allBefore(arrow.left, u) && allBefore(arrow.right, u);
        }
        return type instanceof One || placeOf(type) < placeOf(u);
    }

    // A IS BELOW B (the first case that is so).
    private void isBelow(Type first, Type second) {
        Type a = meant(first);
        Type b = meant(second);
        if (a instanceof One && b instanceof One || a == b && (a instanceof Variable || a instanceof Unknown)) {
            return;
        }
        if (b instanceof ForAll all) {
            Variable v = behind(new Variable());
            isBelow(a, with(all.rest, all.letter, v));
            cutAt(v);
        } else if (a instanceof ForAll all) {
            Mark mark = behind(new Mark());
            Unknown u = behind(newUnknown());
            isBelow(with(all.rest, all.letter, u), b);
            cutAt(mark);
        } else if (a instanceof Unknown u) {
            refuseIf(isIn(u, b));
            set(u, b, true);
        } else if (b instanceof Unknown u) {
            refuseIf(isIn(u, a));
            set(u, a, false);
        } else if (a instanceof Arrow low && b instanceof Arrow high) {
            isBelow(high.left, low.left);
            isBelow(low.right, high.right);
        } else {
            throw new NoType();
        }
    }

    private static void refuseIf(boolean wrong) {
        if (wrong) {
            throw new NoType();
        }
    }

    // AN UNKNOWN u IS SET BELOW (ABOVE) A.
    private void set(Unknown u, Type part, boolean below) {
        Type a = meant(part);
        if (isSimple(a) && allBefore(a, u)) {
            solve(u, a);
        } else if (a instanceof Unknown other && placeOf(other) > placeOf(u)) {
            solve(other, u);
        } else if (a instanceof Arrow arrow) {
            Arrow parts = split(u);
            set((Unknown) parts.left, arrow.left, !below);
            set((Unknown) parts.right, arrow.right, below);
        } else if (a instanceof ForAll all && below) {
            Variable v = behind(new Variable());
            set(u, with(all.rest, all.letter, v), true);
            cutAt(v);
        } else if (a instanceof ForAll all) {
            Mark mark = behind(new Mark());
            Unknown w = behind(newUnknown());
            set(u, with(all.rest, all.letter, w), false);
            cutAt(mark);
        } else {
            throw new NoType();
        }
    }

    // A TERM IS CHECKED against A.
    private void check(Term term, Type against) {
        Type a = meant(against);
        if (a instanceof ForAll all) {
            Variable v = behind(new Variable());
            check(term, with(all.rest, all.letter, v));
            cutAt(v);
        } else if (term instanceof OneTerm && a instanceof One) {
            return;
        } else if (term instanceof Abstraction abstraction && a instanceof Arrow arrow) {
            Typed x = behind(new Typed(abstraction.name, arrow.left));
            check(abstraction.body, arrow.right);
            cutAt(x);
        } else {
            isBelow(find(term), a);
        }
    }

    // A TERM'S TYPE IS FOUND.
    private Type find(Term term) {
        if (term instanceof Letter letter) {
            return typeOfLast(letter.name);
        }
        if (term instanceof Annotation annotation) {
            check(annotation.term, annotation.type);
            return annotation.type;
        }
        if (term instanceof Abstraction abstraction) {
            Unknown u = behind(newUnknown());
            Unknown w = behind(newUnknown());
            Typed x = behind(new Typed(abstraction.name, u));
            check(abstraction.body, w);
            cutAt(x);
            return new Arrow(u, w);
        }
        if (term instanceof Application application) {
            return apply(find(application.function), application.argument);
        }
        return new One();
    }

    private Type typeOfLast(char name) {
        for (int i = context.size() - 1; i >= 0; i--) {
            if (context.get(i) instanceof Typed typed && typed.name == name) {
                return typed.type;
            }
        }
        throw new IllegalStateException("a letter that is not bound");
    }

    // A TYPE IS APPLIED to f.
    private Type apply(Type type, Term f) {
        Type a = meant(type);
        if (a instanceof ForAll all) {
            Unknown u = behind(newUnknown());
            return apply(with(all.rest, all.letter, u), f);
        }
        if (a instanceof Unknown u) {
            a = split(u);
        }
        if (a instanceof Arrow arrow) {
            check(f, arrow.left);
            return arrow.right;
        }
        throw new NoType();
    }

    // A type is PRINTED as a row of bytes.
    private void print(Type part, List<Variable> bound) {
        Type type = meant(part);
        if (row.length() > LONGEST_ROW) {
            throw new TooLarge();
        }
        if (type instanceof One) {
            row.append('1');
        } else if (type instanceof Arrow arrow) {
            row.append('>');
            print(arrow.left, bound);
            print(arrow.right, bound);
        } else if (type instanceof ForAll all) {
            row.append('!');
            bound.add(all.letter);
            print(all.rest, bound);
            bound.remove(bound.size() - 1);
        } else if (type instanceof Unknown u) {
            names.putIfAbsent(u, (char) ('a' + names.size()));
            row.append(names.get(u).charValue());
        } else {
            int between = bound.size() - 1 - bound.indexOf(type);
            row.append((char) ('0' + Math.min(between, 9)));
        }
    }
}
