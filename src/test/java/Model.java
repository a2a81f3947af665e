import java.math.BigInteger;
import java.util.ArrayList;
import java.util.HashMap;
import java.util.LinkedHashMap;
import java.util.LinkedHashSet;
import java.util.List;
import java.util.Map;
import java.util.Set;

/**
 * The document once more, as plainly as the Java library allows and without a thought of room or
 * recursion: an object is a BigInteger, a String or a Pair. ModelTest holds the class against it.
 */
final class Model {
    private static final BigInteger MOST = BigInteger.ONE.shiftLeft(62).subtract(BigInteger.ONE);
    private static final Map<String, Integer> BASE = new HashMap<>();

    static {
        BASE.put("if", 3);
        for (String name : "equal cons implies + - <".split(" ")) {
            BASE.put(name, 2);
        }
        for (String name : "consp car cdr natp symbolp height not".split(" ")) {
            BASE.put(name, 1);
        }
    }

    record Pair(int id, Object head, Object tail) { }

    record Function(List<String> parameters, Object body) { }

    /** A fault of reading, with its place. */
    static final class Unreadable extends RuntimeException {
        private static final long serialVersionUID = 1;
        final int number;
        final int place;

        Unreadable(int number, int place) {
            this.number = number;
            this.place = place;
        }
    }

    /** An answer that ends a command. */
    static final class Refused extends RuntimeException {
        private static final long serialVersionUID = 1;
        final int answer;

        Refused(int answer) {
            this.answer = answer;
        }
    }

    final LinkedHashMap<String, Function> functions = new LinkedHashMap<>();
    int fuel = 1000;
    int fault;
    int place = -1;
    int work;
    int steps;
    String out = "";

    private final Map<List<Object>, Pair> pairs = new HashMap<>();

    int run(String text) {
        fault = 0;
        place = -1;
        work = 0;
        steps = 0;
        out = "";
        try {
            Object command = new Reading(text).whole();
            StringBuilder told = new StringBuilder();
            Object value = perform(command);
            if (value != null) {
                tell(value, told);
                out = told.substring(0, Math.min(2000, told.length()));
            }
            return 0;
        } catch (Unreadable e) {
            fault = e.number;
            place = e.place;
            return 1;
        } catch (Refused e) {
            return e.answer;
        }
    }

    private Pair pair(Object head, Object tail) {
        Object headKey = head instanceof Pair p ? (Object) p.id() : head instanceof String s ? s + "'" : head.toString();
        Object tailKey = tail instanceof Pair p ? (Object) p.id() : tail instanceof String s ? s + "'" : tail.toString();
        return pairs.computeIfAbsent(List.of(headKey, tailKey), key -> new Pair(pairs.size(), head, tail));
    }

    private static boolean same(Object a, Object b) {
        return a instanceof Pair || b instanceof Pair ? a == b : a.equals(b);
    }

    private Object list(List<Object> elements, Object last) {
        Object list = last;
        for (int i = elements.size() - 1; i >= 0; i--) {
            list = pair(elements.get(i), list);
        }
        return list;
    }

    /** A list's elements; null if it is none. */
    private static List<Object> elements(Object list) {
        List<Object> elements = new ArrayList<>();
        Object rest = list;
        while (rest instanceof Pair p) {
            elements.add(p.head());
            rest = p.tail();
        }
        return rest.equals("nil") ? elements : null;
    }

    /** Reading by descent: one method for an object, one for a list. */
    private final class Reading {
        private final String text;
        private int at = 0;
        private int words = 0;

        Reading(String text) {
            this.text = text;
        }

        Object whole() {
            Object object = object(0);
            if (next() != null) {
                throw new Unreadable(3, at);
            }
            return object;
        }

        /** The next word, with its own faults 1 and 2 only; null at the end. It is not passed. */
        private String next() {
            while (at < text.length() && " \n;".indexOf(text.charAt(at)) >= 0) {
                if (text.charAt(at) == ';') {
                    int end = text.indexOf('\n', at);
                    at = end < 0 ? text.length() : end;
                } else {
                    at++;
                }
            }
            if (at == text.length()) {
                return null;
            }
            String rest = text.substring(at);
            if ("()'.".indexOf(rest.charAt(0)) >= 0) {
                return rest.substring(0, 1);
            }
            java.util.regex.Matcher atom = java.util.regex.Pattern.compile("^[-a-z0-9+*/<>=?!_]+").matcher(rest);
            if (!atom.find()) {
                throw new Unreadable(1, at);
            }
            String word = atom.group();
            boolean tooLarge = word.matches("[0-9]+") ? new BigInteger(word).compareTo(MOST) > 0 : word.length() > 11;
            if (tooLarge) {
                throw new Unreadable(2, at);
            }
            return word;
        }

        private void pass(String word) {
            words++;
            if (words > 1000) {
                throw new Unreadable(5, at);
            }
            at += word.length();
        }

        private Object object(int open) {
            String word = next();
            if (word == null || word.equals(")") || word.equals(".")) {
                throw new Unreadable(3, at);
            }
            boolean opens = word.equals("(") || word.equals("'");
            if (opens && open == 40) {
                throw new Unreadable(4, at);
            }
            pass(word);
            if (word.equals("'")) {
                return list(List.of("quote", object(open + 1)), "nil");
            }
            if (word.equals("(")) {
                return rest(open + 1);
            }
            return word.matches("[0-9]+") ? (Object) new BigInteger(word) : word;
        }

        private Object rest(int open) {
            List<Object> elements = new ArrayList<>();
            while (true) {
                String word = next();
                if (")".equals(word)) {
                    pass(word);
                    return list(elements, "nil");
                }
                if (".".equals(word) && !elements.isEmpty()) {
                    pass(word);
                    Object last = object(open);
                    if (!")".equals(next())) {
                        throw new Unreadable(3, at);
                    }
                    pass(")");
                    return list(elements, last);
                }
                elements.add(object(open));
            }
        }
    }

    private static void tell(Object object, StringBuilder out) {
        if (out.length() > 2000) {
            return;
        }
        if (!(object instanceof Pair)) {
            out.append(object);
            return;
        }
        if (isQuoted(object)) {
            out.append("'");
            tell(second(object), out);
            return;
        }
        out.append("(");
        Object rest = object;
        while (rest instanceof Pair p && out.length() <= 2000) {
            out.append(rest == object ? "" : " ");
            tell(p.head(), out);
            rest = p.tail();
        }
        if (!rest.equals("nil")) {
            out.append(" . ").append(rest instanceof Pair ? "" : rest);
        }
        out.append(")");
    }

    private static boolean isQuoted(Object object) {
        List<Object> elements = object instanceof Pair ? elements(object) : null;
        return elements != null && elements.size() == 2 && elements.get(0).equals("quote");
    }

    private static Object second(Object list) {
        return ((Pair) ((Pair) list).tail()).head();
    }

    private static void ask(boolean asTold) {
        if (!asTold) {
            throw new Refused(2);
        }
    }

    private static void askName(boolean right) {
        if (!right) {
            throw new Refused(3);
        }
    }

    /** What a command tells, null if nothing. */
    private Object perform(Object command) {
        List<Object> parts = elements(command);
        ask(parts != null && !parts.isEmpty() && parts.get(0) instanceof String);
        String name = parts.get(0) + "/" + parts.size();
        switch (name) {
            case "eval/2":
                return evaluateChecked(parts.get(1), new LinkedHashMap<>());
            case "with/3":
                return with(parts.get(1), parts.get(2));
            case "map/3":
                return map(parts.get(1), parts.get(2));
            case "defun/4":
            case "redo/4":
                define(name.startsWith("redo"), parts.get(1), parts.get(2), parts.get(3));
                return null;
            case "undo/1":
                undo();
                return null;
            case "show/2":
                return show(parts.get(1));
            default:
                throw new Refused(2);
        }
    }

    private Object evaluateChecked(Object term, Map<String, Object> values) {
        ask(isTerm(term, values.keySet(), null, 0) && size(term) <= 120);
        return evaluate(term, values, 0);
    }

    private Object with(Object bindings, Object term) {
        List<Object> each = elements(bindings);
        ask(each != null);
        Map<String, Object> values = new LinkedHashMap<>();
        for (Object binding : each) {
            List<Object> two = elements(binding);
            ask(two != null && two.size() == 2 && isVariable(two.get(0)));
            ask(values.put((String) two.get(0), two.get(1)) == null);
        }
        return evaluateChecked(term, values);
    }

    private Object map(Object name, Object list) {
        List<Object> each = elements(list);
        ask(isFunctionName(name) && each != null);
        Function function = functions.get(name);
        askName(function != null);
        ask(function.parameters().size() == 1);
        List<Object> values = new ArrayList<>();
        for (Object element : each) {
            Object constant = list(List.of("quote", element), "nil");
            values.add(evaluate(list(List.of(name, constant), "nil"), Map.of(), 0));
        }
        return list(values, "nil");
    }

    private void define(boolean anew, Object name, Object parameters, Object body) {
        List<Object> each = elements(parameters);
        ask(isFunctionName(name) && each != null && each.size() <= 6);
        Set<String> variables = new LinkedHashSet<>();
        for (Object parameter : each) {
            ask(isVariable(parameter) && variables.add((String) parameter));
        }
        ask(isTerm(body, variables, (String) name, each.size()) && size(body) <= 120);
        Function before = functions.get(name);
        if (anew) {
            ask(before == null || before.parameters().size() == each.size());
            askName(before != null);
        } else {
            askName(before == null);
            if (functions.size() == 40) {
                throw new Refused(8);
            }
        }
        functions.put((String) name, new Function(new ArrayList<>(variables), body));
    }

    private void undo() {
        askName(!functions.isEmpty());
        List<String> names = new ArrayList<>(functions.keySet());
        String last = names.get(names.size() - 1);
        for (String other : names) {
            askName(other.equals(last) || !calls(functions.get(other).body(), last));
        }
        functions.remove(last);
    }

    private Object show(Object name) {
        ask(isFunctionName(name));
        Function function = functions.get(name);
        askName(function != null);
        Object parameters = list(new ArrayList<>(function.parameters()), "nil");
        return list(List.of("defun", name, parameters, plain(function.body())), "nil");
    }

    private static boolean isVariable(Object object) {
        return object instanceof String && !object.equals("nil") && !object.equals("t");
    }

    private static boolean isFunctionName(Object object) {
        return isVariable(object) && !object.equals("quote") && !BASE.containsKey(object);
    }

    private boolean isTerm(Object object, Set<String> variables, String own, int ownTakes) {
        if (!(object instanceof Pair)) {
            return !isVariable(object) || variables.contains(object);
        }
        if (isQuoted(object)) {
            return true;
        }
        List<Object> parts = elements(object);
        if (parts == null || !(parts.get(0) instanceof String name)) {
            return false;
        }
        Integer takes = BASE.get(name);
        if (name.equals(own)) {
            takes = ownTakes;
        } else if (functions.containsKey(name)) {
            takes = functions.get(name).parameters().size();
        }
        if (takes == null || takes != parts.size() - 1) {
            return false;
        }
        for (Object part : parts.subList(1, parts.size())) {
            if (!isTerm(part, variables, own, ownTakes)) {
                return false;
            }
        }
        return true;
    }

    private static List<Object> arguments(Object term) {
        if (!(term instanceof Pair p) || isQuoted(term)) {
            return List.of();
        }
        return elements(p.tail());
    }

    private static int size(Object term) {
        int size = 1;
        for (Object argument : arguments(term)) {
            size += size(argument);
        }
        return size;
    }

    private static boolean calls(Object term, String name) {
        boolean found = term instanceof Pair p && !isQuoted(term) && p.head().equals(name);
        for (Object argument : arguments(term)) {
            found |= calls(argument, name);
        }
        return found;
    }

    private Object plain(Object term) {
        if (!(term instanceof Pair p)) {
            return term;
        }
        if (isQuoted(term)) {
            Object constant = second(term);
            return constant instanceof Pair || isVariable(constant) ? term : constant;
        }
        List<Object> parts = new ArrayList<>();
        parts.add(p.head());
        for (Object argument : arguments(term)) {
            parts.add(plain(argument));
        }
        return list(parts, "nil");
    }

    private Refused workFault(int number) {
        work = number;
        return new Refused(4);
    }

    private Object evaluate(Object term, Map<String, Object> values, int open) {
        if (!(term instanceof Pair p)) {
            return isVariable(term) ? values.get(term) : term;
        }
        if (isQuoted(term)) {
            return second(term);
        }
        if (open >= 300) {
            throw workFault(2);
        }
        if (steps >= fuel) {
            throw workFault(1);
        }
        steps++;
        String name = (String) p.head();
        List<Object> terms = arguments(term);
        if (name.equals("if")) {
            Object test = evaluate(terms.get(0), values, open + 1);
            return evaluate(terms.get(test.equals("nil") ? 2 : 1), values, open + 1);
        }
        List<Object> arguments = new ArrayList<>();
        for (Object each : terms) {
            arguments.add(evaluate(each, values, open + 1));
        }
        if (BASE.containsKey(name)) {
            return base(name, arguments.get(0), arguments.get(arguments.size() - 1));
        }
        Function function = functions.get(name);
        Map<String, Object> inner = new HashMap<>();
        for (int i = 0; i < arguments.size(); i++) {
            inner.put(function.parameters().get(i), arguments.get(i));
        }
        return evaluate(function.body(), inner, open + 1);
    }

    private Object base(String name, Object a, Object b) {
        switch (name) {
            case "equal":
                return same(a, b) ? "t" : "nil";
            case "cons":
                return pair(a, b);
            case "implies":
                return !a.equals("nil") && b.equals("nil") ? "nil" : "t";
            case "+":
                BigInteger sum = number(a).add(number(b));
                if (sum.compareTo(MOST) > 0) {
                    throw workFault(3);
                }
                return sum;
            case "-":
                return number(a).subtract(number(b)).max(BigInteger.ZERO);
            case "<":
                return number(a).compareTo(number(b)) < 0 ? "t" : "nil";
            case "consp":
                return a instanceof Pair ? "t" : "nil";
            case "car":
                return a instanceof Pair p ? p.head() : "nil";
            case "cdr":
                return a instanceof Pair p ? p.tail() : "nil";
            case "natp":
                return a instanceof BigInteger ? "t" : "nil";
            case "symbolp":
                return a instanceof String ? "t" : "nil";
            case "height":
                return BigInteger.valueOf(height(a, new HashMap<>()));
            default:
                return a.equals("nil") ? "t" : "nil";
        }
    }

    private static BigInteger number(Object object) {
        return object instanceof BigInteger n ? n : BigInteger.ZERO;
    }

    private static int height(Object object, Map<Integer, Integer> known) {
        if (!(object instanceof Pair p)) {
            return 0;
        }
        Integer height = known.get(p.id());
        if (height == null) {
            height = 1 + Math.max(height(p.head(), known), height(p.tail(), known));
            known.put(p.id(), height);
        }
        return height;
    }
}
