import java.io.IOException;
import java.lang.reflect.Method;
import java.lang.reflect.Modifier;
import java.nio.file.Files;
import java.nio.file.Path;
import java.util.ArrayList;
import java.util.List;
import java.util.regex.Matcher;
import java.util.regex.Pattern;

/** README.md: what its example says that each call answers, and that its table names each call of the face. */
public final class ReadmeTest {
    private static final Pattern ROW = Pattern.compile("(?:int (\\w+) = )?zoo\\.(.*?);\\s*// (-?[0-9.]+): .*");

    public static void main(String[] args) throws IOException {
        if (args.length < 2) {
            System.out.println("call it with the paths of RuleZoo.java and README.md");
            System.exit(1);
        }
        String text = Files.readString(Path.of(args[1]));
        theExampleHolds(exampleOf(text));
        eachCallIsNamed(text);
        Check.end();
    }

    private static List<String> exampleOf(String text) {
        List<String> rows = new ArrayList<>();
        String code = text.substring(text.indexOf("```java\n"), text.indexOf("```\n", text.indexOf("```java\n") + 8));
        for (String line : code.split("\n")) {
            Matcher row = ROW.matcher(line);
            if (row.matches()) {
                rows.add(row.group(2) + " = " + row.group(3));
            }
        }
        return rows;
    }

    private static void theExampleHolds(List<String> rows) {
        RuleZoo zoo = new RuleZoo();
        List<String> calls = new ArrayList<>();
        calls.add("come(0, 1, 9) = " + zoo.come(0, 1, 9));
        calls.add("come(1, 2, 4) = " + zoo.come(1, 2, 4));
        calls.add("prey(hunter) = " + zoo.prey(0));
        calls.add("prey(hare) = " + zoo.prey(1));
        calls.add("lives(hare) = " + zoo.lives(1));
        calls.add("advise(hare) = " + zoo.advise(1));
        calls.add("pass(1) = " + zoo.pass(1));
        calls.add("rule(hare, 9) = " + zoo.rule(1, 9));
        calls.add("rule(hare, 11) = " + zoo.rule(1, 11));
        calls.add("mean() = " + zoo.mean());
        Check.isText("the example of README.md", String.join("\n", calls), String.join("\n", rows));
    }

    private static void eachCallIsNamed(String text) {
        for (Method method : RuleZoo.class.getDeclaredMethods()) {
            if (Modifier.isPublic(method.getModifiers())) {
                Check.isTrue("README.md has a row for " + method.getName(),
                        text.contains("\n| `" + method.getName() + "("));
            }
        }
    }
}
