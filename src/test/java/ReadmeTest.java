import java.io.File;
import java.io.IOException;
import java.lang.reflect.Method;
import java.nio.file.Files;
import java.nio.file.Path;
import java.util.ArrayList;
import java.util.List;
import java.util.regex.Matcher;
import java.util.regex.Pattern;

/** That README.md's calls, texts and answers are so, and that it names each method and test. */
public final class ReadmeTest {
    private static final Pattern CALL = Pattern.compile("lisp\\.(\\w+)\\(([^)]*)\\); *// (.*)");
    private static final Pattern ROW = Pattern.compile("\\| `([^`]*)` \\| (\\d) \\| (?:`([^`]*)` )?\\|");

    public static void main(String[] args) throws IOException, ReflectiveOperationException {
        String readme = Files.readString(Path.of("README.md"));
        calls(readme);
        texts(readme);
        answers(readme);
        names(readme);
        Session.finish();
    }

    /** Each line "lisp.call(ints); // answer", where a feed has its text instead. */
    private static void calls(String readme) throws ReflectiveOperationException {
        LispMachine lisp = new LispMachine();
        int found = 0;
        Matcher line = CALL.matcher(readme);
        while (line.find()) {
            found++;
            List<Integer> ints = ints(line.group(2));
            Object answer = method(line.group(1)).invoke(lisp, ints.toArray());
            if (answer == null) {
                String text = line.group(3).substring(1, line.group(3).length() - 1);
                List<Integer> due = new ArrayList<>();
                for (int word : Session.words(text)) {
                    due.add(word);
                }
                Session.same(line.group(), ints, due);
            } else {
                Session.same(line.group(), answer.toString(), line.group(3).split(":")[0]);
            }
        }
        Session.same("calls are found", found > 10, true);
    }

    private static List<Integer> ints(String list) {
        List<Integer> ints = new ArrayList<>();
        for (String each : list.split(", ")) {
            if (!each.isEmpty()) {
                ints.add(Integer.decode(each));
            }
        }
        return ints;
    }

    private static Method method(String name) throws ReflectiveOperationException {
        for (Method method : LispMachine.class.getMethods()) {
            if (method.getName().equals(name)) {
                return method;
            }
        }
        throw new NoSuchMethodException(name);
    }

    /** Each row with a TEXT, its answer and OUT, one behind the other. */
    private static void texts(String readme) {
        Session s = new Session();
        int found = 0;
        Matcher row = ROW.matcher(readme);
        while (row.find()) {
            found++;
            Session.same(row.group(1) + " answers", s.run(row.group(1)), Integer.parseInt(row.group(2)));
            Session.same(row.group(1) + " tells", s.out(), row.group(3) == null ? "" : row.group(3));
        }
        Session.same("texts are found", found > 10, true);
    }

    private static void answers(String readme) {
        String[] rows = {"| 0 | it was done |", "| 1 | a FAULT of READING |",
            "| 2 | it is none of these, or something in it is not as told |",
            "| 3 | a name that is taken, or one that there is not |", "| 4 | a FAULT OF WORK |", "| 8 | there is no room |"};
        for (String row : rows) {
            Session.same(row, readme.contains(row), true);
        }
    }

    private static void names(String readme) {
        for (Method method : LispMachine.class.getDeclaredMethods()) {
            Session.same(method.getName() + " is used", readme.contains("lisp." + method.getName() + "("), true);
        }
        String[] files = new File("src/test/java").list();
        Session.same("tests are found", files != null && files.length > 10, true);
        for (String file : files == null ? new String[0] : files) {
            Session.same(file + " is named", readme.contains("`" + file.replace(".java", "") + "`"), true);
        }
    }
}
