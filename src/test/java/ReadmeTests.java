import java.io.IOException;
import java.lang.reflect.Field;
import java.lang.reflect.Method;
import java.nio.file.Files;
import java.nio.file.Path;
import java.util.ArrayList;
import java.util.List;
import java.util.TreeSet;
import java.util.regex.Matcher;
import java.util.regex.Pattern;

/** The example in README.md: each call has the answer that stands behind it, and no call is missing. */
public final class ReadmeTests {
    private static final Pattern NEW = Pattern.compile("SqueezedCode x = new SqueezedCode\\(\\);");
    private static final Pattern TEXT = Pattern.compile(
            "for \\(char letter : \"([^\"]*)\"\\.toCharArray\\(\\)\\) x\\.write\\(letter\\);");
    private static final Pattern CALL = Pattern.compile("x\\.(\\w+)\\(([^)]*)\\); +// (-?\\w+).*");
    private static final Pattern CONSTANT = Pattern.compile("\\| `(\\w+)` +\\| (-?\\d+) +\\|.*");

    private static int wrong = 0;
    private static int answers = 0;

    public static void main(String[] arguments) throws IOException, ReflectiveOperationException {
        List<String> lines = Files.readAllLines(Path.of("README.md"));
        playExample(exampleIn(lines));
        lookAtConstants(lines);
        System.out.println(answers + " answers of the example looked at, " + wrong + " not as due");
        if (wrong != 0) {
            System.exit(1);
        }
    }

    private static void tell(String what) {
        wrong++;
        System.out.println("README.md: " + what);
    }

    private static List<String> exampleIn(List<String> lines) {
        List<String> example = new ArrayList<>();
        boolean inside = false;
        for (String line : lines) {
            if (line.startsWith("```")) {
                inside = line.equals("```java");
            } else if (inside) {
                example.add(line.strip());
            }
        }
        return example;
    }

    private static void playExample(List<String> example) throws ReflectiveOperationException {
        TreeSet<String> missing = new TreeSet<>();
        for (Method method : SqueezedCode.class.getDeclaredMethods()) {
            if (java.lang.reflect.Modifier.isPublic(method.getModifiers())) {
                missing.add(method.getName());
            }
        }
        SqueezedCode x = null;
        for (String line : example) {
            Matcher call = CALL.matcher(line);
            Matcher text = TEXT.matcher(line);
            if (NEW.matcher(line).matches()) {
                x = new SqueezedCode();
            } else if (text.matches()) {
                for (char letter : text.group(1).toCharArray()) {
                    x.write(letter);
                }
            } else if (call.matches()) {
                missing.remove(call.group(1));
                lookAtCall(x, line, call);
            } else if (!line.isEmpty() && !line.startsWith("//")) {
                tell("not to be read: " + line);
            }
        }
        if (!missing.isEmpty()) {
            tell("the example has no " + missing);
        }
    }

    private static void lookAtCall(SqueezedCode x, String line, Matcher call) throws ReflectiveOperationException {
        String[] words = call.group(2).isEmpty() ? new String[0] : call.group(2).split(", ");
        Class<?>[] types = new Class<?>[words.length];
        Object[] numbers = new Object[words.length];
        for (int k = 0; k < words.length; k++) {
            types[k] = int.class;
            numbers[k] = words[k].startsWith("'") ? words[k].charAt(1) : Integer.parseInt(words[k]);
        }
        int got = (Integer) SqueezedCode.class.getMethod(call.group(1), types).invoke(x, numbers);
        answers++;
        if (got != numberOf(call.group(3))) {
            tell(line + " -- answered " + got);
        }
    }

    private static int numberOf(String word) throws ReflectiveOperationException {
        return Character.isUpperCase(word.charAt(0))
                ? SqueezedCode.class.getField(word).getInt(null) : Integer.parseInt(word);
    }

    private static void lookAtConstants(List<String> lines) throws ReflectiveOperationException {
        TreeSet<String> missing = new TreeSet<>();
        for (Field field : SqueezedCode.class.getFields()) {
            missing.add(field.getName());
        }
        for (String line : lines) {
            Matcher constant = CONSTANT.matcher(line);
            if (constant.matches()) {
                missing.remove(constant.group(1));
                if (numberOf(constant.group(1)) != Integer.parseInt(constant.group(2))) {
                    tell(line);
                }
            }
        }
        if (!missing.isEmpty()) {
            tell("the table of constants has no " + missing);
        }
    }
}
