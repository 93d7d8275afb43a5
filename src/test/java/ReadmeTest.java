import java.lang.reflect.Method;
import java.lang.reflect.Modifier;
import java.nio.file.Files;
import java.nio.file.Path;
import java.util.ArrayList;
import java.util.List;
import java.util.regex.Matcher;
import java.util.regex.Pattern;

/** The calls of README.md's example answer what the page tells, and the page names every call. */
public final class ReadmeTest {
    private static final Check check = new Check();
    private static final Pattern TOLD = Pattern.compile("^(jars\\.\\w+\\(.*?\\);) +// (-?\\d+):", Pattern.MULTILINE);

    private static final List<String> madeCalls = new ArrayList<>();
    private static final List<String> toldCalls = new ArrayList<>();
    private static final List<Long> toldAnswers = new ArrayList<>();

    public static void main(String[] args) throws Exception {
        String page = Files.readString(Path.of("README.md"));
        Matcher told = TOLD.matcher(page);
        while (told.find()) {
            toldCalls.add(told.group(1));
            toldAnswers.add(Long.parseLong(told.group(2)));
        }
        check.part("README: its example answers what the page tells");
        example(page);
        check.due("calls that the page tells an answer of, and made here: " + toldCalls, madeCalls.equals(toldCalls));
        check.part("README: it names every call");
        for (Method method : FortyJars.class.getDeclaredMethods()) {
            if (!Modifier.isPublic(method.getModifiers())) continue;
            String name = "`" + method.getName();
            check.due(name, page.contains(name + "`") || page.contains(name + "()`"));
        }
        check.end();
    }

    private static void answers(String call, long answer) {
        int turn = madeCalls.size();
        madeCalls.add(call);
        if (turn < toldAnswers.size()) check.due(call, answer, toldAnswers.get(turn));
    }

    private static void example(String page) {
        FortyJars jars = new FortyJars();
        String text = "y14;om1w0.";
        check.due("the text stands on the page", page.contains("String text = \"" + text + "\";"));
        answers("jars.sheet(0, 0, text.length());", jars.sheet(0, 0, text.length()));
        for (int i = 0; i < text.length(); i++) jars.put(0, i, text.charAt(i));
        answers("jars.yard(0, 0, 0, text.length());", jars.yard(0, 0, 0, text.length()));
        answers("jars.inside(0);", jars.inside(0));
        answers("jars.ears(1);", jars.ears(1));
        answers("jars.soonest();", jars.soonest());
        answers("jars.doze(1, true);", jars.doze(1, true));
        answers("jars.soonest();", jars.soonest());
        int[] steps = {6, 0, 6, 1};
        check.due("the steps stand on the page", page.contains("int[] steps = {6, 0, 6, 1};"));
        answers("jars.sheet(1, 2, steps.length);", jars.sheet(1, 2, steps.length));
        for (int i = 0; i < steps.length; i++) jars.put(1, i, steps[i]);
        answers("jars.plan(1, 2, 0, 4, 0);", jars.plan(1, 2, 0, 4, 0));
        answers("jars.plan(1, 2, 0, 4, 2);", jars.plan(1, 2, 0, 4, 2));
        answers("jars.odds(1, 2, 0, 4, 1);", jars.odds(1, 2, 0, 4, 1));
        answers("jars.reading(1, 0, false);", jars.reading(1, 0, false));
        answers("jars.kinds(1);", jars.kinds(1));
        answers("jars.plan(1, 0, 0, 4, 0);", jars.plan(1, 0, 0, 4, 0));
        answers("jars.fault();", jars.fault());
    }
}
