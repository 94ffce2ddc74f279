import java.io.IOException;
import java.lang.reflect.Constructor;
import java.lang.reflect.Field;
import java.lang.reflect.Method;
import java.lang.reflect.Modifier;
import java.nio.file.Files;
import java.nio.file.Path;
import java.util.Arrays;
import java.util.List;
import java.util.Set;
import java.util.TreeSet;
import java.util.regex.Matcher;
import java.util.regex.Pattern;

/** The public face of the document, and those rules of ../shared/LANGUAGE.md that can be seen from outside. */
public final class LanguageTest {
    private static final String I = "IndexOutOfBoundsException";
    private static final String A = "IllegalArgumentException";
    private static final String S = "IllegalStateException";

    private static final String[] FACE = {
        "int come(int,int,int) " + I + " " + A + " " + S,
        "int move(int,int) " + I + " " + S,
        "int feed(int) " + I + " " + S,
        "int alter(int,int) " + I + " " + A + " " + S,
        "int free(int) " + I + " " + S,
        "int rule(int,int) " + I,
        "int cage(int) " + I,
        "int count(int) " + I,
        "boolean may(int,int) " + I,
        "int prey(int) " + I,
        "int hunters(int) " + I,
        "int chain(int) " + I,
        "int pass(int) " + A,
        "int foresee(int,int) " + A + " " + I,
        "int lives(int) " + I,
        "int ends()",
        "int last()",
        "int advise(int) " + I,
        "double mean()",
        "long digest()",
    };

    private static final String[] FORBIDDEN_WORDS = {
        "import", "package", "try", "catch", "finally", "synchronized", "assert", "instanceof", "protected",
        "equals", "hashCode", "toString", "getClass", "Object", "volatile", "transient", "native", "var", "yield",
    };

    public static void main(String[] args) throws IOException {
        faceIsTheDocuments();
        nothingElseIsSeen();
        staticFieldsAreFinal();
        if (args.length < 1) {
            System.out.println("call it with the path of RuleZoo.java");
            System.exit(1);
        }
        String text = Files.readString(Path.of(args[0]));
        textKeepsToTheRules(text);
        methodsAreShort(text);
        Check.end();
    }

    private static String told(Method method) {
        StringBuilder text = new StringBuilder(method.getReturnType().getSimpleName());
        text.append(' ').append(method.getName()).append('(');
        String comma = "";
        for (Class<?> type : method.getParameterTypes()) {
            text.append(comma).append(type.getSimpleName());
            comma = ",";
        }
        text.append(')');
        for (Class<?> type : method.getExceptionTypes()) {
            text.append(' ').append(type.getSimpleName());
        }
        return text.toString();
    }

    private static void faceIsTheDocuments() {
        Set<String> found = new TreeSet<>();
        for (Method method : RuleZoo.class.getDeclaredMethods()) {
            if (Modifier.isPublic(method.getModifiers())) {
                found.add(told(method));
                Check.isFalse("static " + method.getName(), Modifier.isStatic(method.getModifiers()));
            }
        }
        Check.isText("the face", new TreeSet<>(List.of(FACE)).toString(), found.toString());
        Check.isText("the class", "public final", Modifier.toString(RuleZoo.class.getModifiers()));
        Constructor<?>[] constructors = RuleZoo.class.getDeclaredConstructors();
        Check.is("constructors", 1, constructors.length);
        Check.is("what the constructor takes", 0, constructors[0].getParameterCount());
        Check.isText("the constructor", "public", Modifier.toString(constructors[0].getModifiers()));
    }

    private static void nothingElseIsSeen() {
        Set<String> names = new TreeSet<>();
        for (String row : FACE) {
            names.add(row.substring(row.indexOf(' ') + 1, row.indexOf('(')));
        }
        for (Method method : RuleZoo.class.getDeclaredMethods()) {
            int modifiers = method.getModifiers();
            Check.isTrue(method.getName() + " is public or private",
                    Modifier.isPublic(modifiers) || Modifier.isPrivate(modifiers) || method.isSynthetic());
        }
        for (Field field : RuleZoo.class.getDeclaredFields()) {
            Check.isTrue(field.getName() + " is private", Modifier.isPrivate(field.getModifiers()));
        }
        for (Class<?> inside : RuleZoo.class.getDeclaredClasses()) {
            int modifiers = inside.getModifiers();
            Check.isTrue(inside + " is static", Modifier.isStatic(modifiers));
            Check.isFalse(inside + " is public", Modifier.isPublic(modifiers) || Modifier.isProtected(modifiers));
            Check.isTrue(inside + " has some twenty fields at most", inside.getDeclaredFields().length <= 20);
            for (Method method : inside.getDeclaredMethods()) {
                Check.isFalse(method + " bears a name of the face", names.contains(method.getName()));
            }
        }
        for (Method method : RuleZoo.class.getDeclaredMethods()) {
            if (Modifier.isPrivate(method.getModifiers())) {
                Check.isFalse(method + " bears a name of the face", names.contains(method.getName()));
            }
        }
    }

    private static void staticFieldsAreFinal() {
        for (Field field : RuleZoo.class.getDeclaredFields()) {
            boolean fine = !Modifier.isStatic(field.getModifiers()) || Modifier.isFinal(field.getModifiers());
            Check.isTrue(field.getName() + ", if static, is final", fine);
        }
    }

    private static void textKeepsToTheRules(String text) {
        String code = text.replaceAll("(?s)/\\*.*?\\*/", " ").replaceAll("//[^\n]*", " ");
        code = code.replaceAll("\"[^\"\n]*\"", "\"\"");
        for (String word : FORBIDDEN_WORDS) {
            Check.isFalse("the word " + word, Pattern.compile("\\b" + word + "\\b").matcher(code).find());
        }
        for (String sign : new String[] {"->", "::", "@", "<>", "\"\" +", "+ \"\""}) {
            Check.isFalse("the sign " + sign, code.contains(sign));
        }
        Matcher calls = Pattern.compile("\\b(?:Math|Integer|Long|System|Arrays)\\.(\\w+)").matcher(code);
        List<String> known = Arrays.asList("arraycopy", "min", "max", "floorMod", "bitCount");
        while (calls.find()) {
            Check.isTrue("a call of " + calls.group(), known.contains(calls.group(1)));
        }
        Matcher made = Pattern.compile("\\bnew\\s+(\\w+)").matcher(code);
        List<String> mayBeMade = Arrays.asList("int", "State", I, A, S);
        while (made.find()) {
            Check.isTrue("what is made: " + made.group(), mayBeMade.contains(made.group(1)));
        }
        Check.isTrue("all signs are plain", code.chars().allMatch(sign -> sign < 127));
    }

    /** A method begins with a line that ends with an opening brace, and ends with a brace as far in. */
    private static void methodsAreShort(String text) {
        String[] lines = text.split("\n");
        for (int at = 0; at < lines.length; at++) {
            String line = lines[at];
            if (line.trim().contains("(") && line.endsWith("{") && line.matches("( {4}| {8})\\w.*")) {
                String end = line.substring(0, line.length() - line.stripLeading().length()) + "}";
                int last = at + 1;
                while (last < lines.length && !lines[last].equals(end)) {
                    last++;
                }
                Check.isTrue("lines from " + (at + 1) + ": " + (last - at + 1), last - at + 1 <= 60);
            }
        }
    }
}
