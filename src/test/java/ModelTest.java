import java.util.ArrayList;
import java.util.List;
import java.util.Random;

/** Runs of random calls, the same ones each time, whose answers are held against Model. */
public final class ModelTest {
    private static final int RUNS = 3000;
    private static final int MOST_CALLS = 512;
    private static final String[] VARIABLES = {"x", "y", "z", "quote", "car", "f1"};
    private static final String[] NAMES = {"f1", "f2", "f3", "f4", "f5", "eval", "map", "g", "car", "quote", "nil"};
    private static final String NOISE = "()'. a1;\n#A:\t\u00E9\0";
    private static final String[] BASE = {"if3", "equal2", "cons2", "implies2", "+2", "-2", "<2", "consp1",
        "car1", "cdr1", "natp1", "symbolp1", "height1", "not1"};

    private final Random random;
    private final LispMachine machine = new LispMachine();
    private final Model model = new Model();
    private int calls = 0;
    private static final int[] answers = new int[9];
    private static final int[] workFaults = new int[4];
    private static final int[] readingFaults = new int[6];

    private ModelTest(long seed) {
        random = new Random(seed);
    }

    public static void main(String[] args) {
        for (int seed = 0; seed < RUNS; seed++) {
            new ModelTest(seed).oneRun("run " + seed);
        }
        // What the runs never reach they don't test.
        for (int answer : new int[] {0, 1, 2, 3, 4, 8}) {
            Session.same("answer " + answer + " was reached", answers[answer] > 0, true);
        }
        for (int i = 1; i <= 3; i++) {
            Session.same("fault of work " + i + " was reached", workFaults[i] > 0, true);
        }
        for (int i = 1; i <= 5; i++) {
            Session.same("fault of reading " + i + " was reached", readingFaults[i] > 0, true);
        }
        System.out.println("answers " + java.util.Arrays.toString(answers) + ", faults of work "
                + java.util.Arrays.toString(workFaults) + ", of reading " + java.util.Arrays.toString(readingFaults));
        Session.finish();
    }

    private void oneRun(String run) {
        boolean manyFunctions = random.nextInt(20) == 0;
        int texts = 0;
        while (calls < MOST_CALLS) {
            if (random.nextInt(12) == 0) {
                int fuel = random.nextInt(3) == 0 ? random.nextInt(1003) - 1 : 1 + random.nextInt(60);
                int due = fuel < 1 || fuel > 1000 ? -1 : model.fuel;
                Session.same(run + " fuel(" + fuel + ")", machine.fuel(fuel), due);
                model.fuel = due == -1 ? model.fuel : fuel;
            }
            String text = manyFunctions && random.nextInt(10) != 0 ? "(defun g" + texts + " () 1)" : spoiled(command());
            texts++;
            if (text.length() > 3000 || calls + text.length() / 10 + 4 > MOST_CALLS) {
                break;
            }
            oneText(run + ": " + text, text);
        }
    }

    private void oneText(String what, String text) {
        int length = 0;
        for (int from = 0; from < text.length(); from += 20) {
            String part = text.substring(from, Math.min(from + 20, text.length()));
            int[] words = Session.words(part);
            machine.feed(words[0], words[1], words[2], words[3], words[4]);
            length += part.length();
            Session.same(what + " end", machine.end(part.length()), length);
            calls += 2;
        }
        calls++;
        int answer = model.run(text);
        answers[answer]++;
        workFaults[model.work]++;
        readingFaults[model.fault]++;
        Session.same(what + " answers", machine.run(), answer);
        Session.same(what + " fault(0)", machine.fault(0), model.fault);
        Session.same(what + " fault(1)", machine.fault(1), model.place);
        Session.same(what + " fault(2)", machine.fault(2), model.work);
        Session.same(what + " steps", machine.steps(), model.steps);
        Session.same(what + " functions", machine.functions(), model.functions.size());
        StringBuilder out = new StringBuilder();
        for (int k = 0; k < machine.size(); k++) {
            out.append((char) machine.letter(k));
        }
        Session.same(what + " tells", out.toString(), model.out);
    }

    private <X> X one(List<X> of) {
        return of.get(random.nextInt(of.size()));
    }

    private String one(String[] of) {
        return of[random.nextInt(of.length)];
    }

    private String command() {
        switch (random.nextInt(13)) {
            case 0:
            case 1:
            case 2:
                return definition(random.nextInt(3) == 0 ? "redo" : "defun", one(NAMES));
            case 3:
                return model.functions.isEmpty() ? "(undo)" : redoOfOne();
            case 4:
            case 5:
                return "(eval " + term(List.of(), null, 0, 4) + ")";
            case 6:
                return with();
            case 7:
            case 8:
                return "(map " + name() + " " + (random.nextInt(8) == 0 ? object(3) : list(3, false)) + ")";
            case 9:
                return random.nextInt(2) == 0 ? "(undo)" : "(show " + name() + ")";
            case 10:
                return "(show " + name() + ")";
            case 11:
                return random.nextInt(3) == 0 ? longText() : "(eval " + call(name()) + ")";
            default:
                return random.nextInt(3) == 0 ? object(4) : "(eval " + call(name()) + ")";
        }
    }

    private String call(String name) {
        Model.Function function = model.functions.get(name);
        int takes = function == null ? random.nextInt(3) : function.parameters().size();
        StringBuilder call = new StringBuilder("(" + name);
        for (int i = 0; i < takes; i++) {
            call.append(' ').append(term(List.of(), null, 0, 1));
        }
        return call + ")";
    }

    private String longText() {
        int n = 200 + random.nextInt(900);
        switch (random.nextInt(4)) {
            case 0:
                return "(map " + name() + " (" + "1 ".repeat(n) + "))";
            case 1:
                return "(eval '" + "(".repeat(random.nextInt(45)) + "a";
            case 2:
                return "(eval '(" + "'a ".repeat(n / 2) + "))";
            default:
                return "(with ((x (" + object(2) + " a".repeat(n) + "))) x)";
        }
    }

    private String name() {
        List<String> defined = new ArrayList<>(model.functions.keySet());
        return defined.isEmpty() || random.nextInt(8) == 0 ? one(NAMES) : one(defined);
    }

    private String redoOfOne() {
        return definition("redo", name());
    }

    private String definition(String command, String name) {
        Model.Function before = model.functions.get(name);
        int count = before != null && random.nextInt(6) != 0 ? before.parameters().size() : random.nextInt(4);
        count = random.nextInt(30) == 0 ? 5 + random.nextInt(3) : count;
        List<String> parameters = new ArrayList<>();
        for (int i = 0; i < count; i++) {
            String parameter = random.nextInt(40) == 0 ? object(1) : one(VARIABLES);
            if (!parameters.contains(parameter) || random.nextInt(30) == 0) {
                parameters.add(parameter);
            }
        }
        return "(" + command + " " + name + " (" + String.join(" ", parameters) + ") "
                + term(parameters, name, parameters.size(), 4) + ")";
    }

    private String with() {
        StringBuilder bindings = new StringBuilder();
        List<String> variables = new ArrayList<>();
        for (int i = random.nextInt(4); i > 0; i--) {
            String variable = one(VARIABLES);
            if (!variables.contains(variable) || random.nextInt(20) == 0) {
                variables.add(variable);
                bindings.append('(').append(variable).append(' ').append(object(3)).append(')');
            }
        }
        return "(with (" + bindings + ") " + term(variables, null, 0, 3) + ")";
    }

    private String term(List<String> variables, String own, int ownTakes, int depth) {
        int kind = random.nextInt(depth > 0 ? 10 : 4);
        if (kind < 2 && !variables.isEmpty()) {
            return one(variables);
        }
        if (kind < 4) {
            return random.nextInt(40) == 0 ? "x" : constant();
        }
        String name = one(BASE);
        int takes = name.charAt(name.length() - 1) - '0';
        name = name.substring(0, name.length() - 1);
        if (own != null && random.nextInt(5) == 0) {
            name = own;
            takes = ownTakes;
        } else if (!model.functions.isEmpty() && random.nextInt(3) == 0) {
            name = name();
            takes = model.functions.containsKey(name) ? model.functions.get(name).parameters().size() : 1;
        }
        takes = random.nextInt(80) == 0 ? random.nextInt(4) : takes;
        StringBuilder term = new StringBuilder("(" + name);
        for (int i = 0; i < takes; i++) {
            term.append(' ').append(term(variables, own, ownTakes, depth - 1));
        }
        return term + ")";
    }

    private String constant() {
        switch (random.nextInt(6)) {
            case 0:
                return "nil";
            case 1:
                return "t";
            case 2:
                return number();
            default:
                return random.nextBoolean() ? "'" + object(2) : "(quote " + object(2) + ")";
        }
    }

    private String number() {
        return random.nextInt(6) == 0 ? "46116860184273879" + (random.nextInt(60) == 0 ? "04" : "03")
                : String.valueOf(random.nextInt(12));
    }

    private String object(int depth) {
        switch (random.nextInt(depth > 0 ? 8 : 4)) {
            case 0:
                return number();
            case 1:
                return random.nextBoolean() ? "nil" : "quote";
            case 2:
            case 3:
                return one(VARIABLES);
            case 4:
                return "'" + object(depth - 1);
            default:
                return list(depth, random.nextInt(4) == 0);
        }
    }

    private String list(int depth, boolean dotted) {
        StringBuilder list = new StringBuilder("(");
        for (int i = random.nextInt(4) + (dotted ? 1 : 0); i > 0; i--) {
            list.append(object(depth - 1)).append(random.nextInt(8) == 0 ? "\n" : " ");
        }
        return list + (dotted ? ". " + object(depth - 1) : "") + ")";
    }

    /** Now and then a text gets blanks, comments, or a fault. */
    private String spoiled(String text) {
        int at = random.nextInt(text.length() + 1);
        String before = text.substring(0, at);
        String behind = text.substring(at);
        switch (random.nextInt(30)) {
            case 0:
                return before + NOISE.charAt(random.nextInt(NOISE.length())) + behind;
            case 1:
                return before + (behind.isEmpty() ? "" : behind.substring(1));
            case 2:
                return before;
            case 3:
                return before.replace(" ", " ; (#' \n ") + behind;
            case 4:
                return before + " aaaaaaaaaaa" + "a ".repeat(random.nextInt(2)) + " " + behind;
            default:
                return text;
        }
    }
}
