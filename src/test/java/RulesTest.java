import java.lang.reflect.Constructor;
import java.lang.reflect.Field;
import java.lang.reflect.Member;
import java.lang.reflect.Method;
import java.lang.reflect.Modifier;
import java.nio.file.Files;
import java.nio.file.Path;
import java.util.ArrayList;
import java.util.List;
import java.util.Set;
import java.util.TreeSet;
import java.util.regex.Pattern;

/** The public face, and what of LANGUAGE.md can be seen from outside. */
public final class RulesTest {
    private static final Check check = new Check();
    private static final Set<String> FACE = Set.of(
            "int yard(int,int,int,int)", "int inside(int)", "int ofMan(int,int)", "int far(int,int)", "int can(int)",
            "int delay(int)", "int doze(int,boolean)", "int ears(int)", "int plan(int,int,int,int,int)",
            "int quiet(int)", "int stuck()", "int soonest()", "int most()", "int without(int)",
            "int reading(int,int,boolean)", "int back(int)", "int holds()", "int hearing(int)", "int kinds(int)",
            "long odds(int,int,int,int,int)", "int sheet(int,int,int)", "int lose(int)", "int put(int,int,int)",
            "long cell(int,int,int)", "int copy(int,int,int,int,int)", "int tell(int)", "int ask(int)",
            "int as(int,int)", "int trace()", "int fault()", "int many(int)");
    private static final Set<String> CONSTANTS = Set.of("UNKNOWN", "OUTSIDE", "STATE", "FULL", "NONE", "LOST");

    public static void main(String[] args) throws Exception {
        face();
        source();
        check.end();
    }

    private static void face() {
        check.part("the public face, and rule 1: nothing beside it but private members");
        int modifiers = FortyJars.class.getModifiers();
        check.due("public", Modifier.isPublic(modifiers));
        check.due("final", Modifier.isFinal(modifiers));
        Set<String> open = new TreeSet<>();
        Set<String> names = new TreeSet<>();
        for (Method method : FortyJars.class.getDeclaredMethods()) {
            if (isPrivate(method)) continue;
            check.due(method + " is public", Modifier.isPublic(method.getModifiers()));
            check.due(method + " is no static one", !Modifier.isStatic(method.getModifiers()));
            open.add(told(method));
            names.add(method.getName());
        }
        check.due("methods " + open, open.equals(new TreeSet<>(FACE)));
        Set<String> fields = new TreeSet<>();
        for (Field field : FortyJars.class.getDeclaredFields()) {
            if (isPrivate(field)) continue;
            fields.add(field.getName());
            check.due(field + " is a constant", field.getModifiers(), Modifier.PUBLIC | Modifier.STATIC | Modifier.FINAL);
        }
        check.due("constants " + fields, fields.equals(new TreeSet<>(CONSTANTS)));
        Constructor<?>[] made = FortyJars.class.getDeclaredConstructors();
        check.due("constructors", made.length, 1);
        check.due("it is public", Modifier.isPublic(made[0].getModifiers()));
        check.due("it takes nothing", made[0].getParameterCount(), 0);
        for (Class<?> inside : FortyJars.class.getDeclaredClasses()) nested(inside, names);
        for (Method method : FortyJars.class.getDeclaredMethods()) {
            if (isPrivate(method)) check.due(method + " bears no public name", !names.contains(method.getName()));
        }
    }

    private static void nested(Class<?> inside, Set<String> names) {
        check.due(inside + " is static", Modifier.isStatic(inside.getModifiers()));
        check.due(inside + " is not public", (inside.getModifiers() & (Modifier.PUBLIC | Modifier.PROTECTED)) == 0);
        for (Method method : inside.getDeclaredMethods()) {
            check.due(method + " bears no public name", !names.contains(method.getName()));
            check.due(method + " takes seven at most", method.getParameterCount() <= 7);
        }
        int fields = 0;
        for (Field field : inside.getDeclaredFields()) {
            boolean isStatic = Modifier.isStatic(field.getModifiers());
            check.due(field + ": a static one is final", !isStatic || Modifier.isFinal(field.getModifiers()));
            if (!isStatic) fields++;
        }
        check.due(inside + " has some twenty fields", fields <= 20);
    }

    private static boolean isPrivate(Member member) {
        return Modifier.isPrivate(member.getModifiers()) || member.isSynthetic();
    }

    private static String told(Method method) {
        List<String> types = new ArrayList<>();
        for (Class<?> type : method.getParameterTypes()) types.add(type.getSimpleName());
        return method.getReturnType().getSimpleName() + " " + method.getName() + "(" + String.join(",", types) + ")";
    }

    private static void source() throws Exception {
        check.part("rules 2 to 7, 12, 13: words that the source has not");
        String source = Files.readString(Path.of("src/main/java/FortyJars.java"));
        String code = source.replaceAll("(?s)/\\*.*?\\*/", "").replaceAll("//[^\n]*", "");
        String[] words = {"package", "import", "throw", "throws", "try", "catch", "finally", "synchronized", "assert",
            "protected", "volatile", "transient", "native", "float", "double", "Object", "toString", "equals", "hashCode",
            "Random", "Thread", "nanoTime", "currentTimeMillis", "getenv", "getProperty", "exit", "var", "yield",
            "\\w+Exact", "Exception", "Error"};
        for (String word : words) check.due("no " + word, !Pattern.compile("\\b" + word + "\\b").matcher(code).find());
        check.due("no lambda", !code.contains("->"));
        check.due("no method reference", !code.contains("::"));
        check.due("plain letters alone", source.chars().allMatch(c -> c == '\n' || c >= 32 && c < 127));
        int classes = Pattern.compile("\\b(class|interface|enum|record) \\w+").matcher(code).results().toList().size();
        check.due("some twelve classes at most", classes <= 12);
        check.due("arrays are made in fields alone", !Pattern.compile("(?m)^ {12,}.*\\bnew\\b").matcher(code).find());
    }
}
