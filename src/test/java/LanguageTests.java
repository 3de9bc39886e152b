import java.lang.reflect.Field;
import java.lang.reflect.Member;
import java.lang.reflect.Method;
import java.lang.reflect.Modifier;
import java.nio.file.Files;
import java.nio.file.Path;
import java.util.Set;
import java.util.TreeSet;
import java.util.regex.Matcher;
import java.util.regex.Pattern;

/** The rules of LANGUAGE.md that a look at the source or at the compiled classes can tell. */
public final class LanguageTests {
    private static final String[] FORBIDDEN = {"throw", "throws", "try", "catch", "finally", "synchronized", "assert",
        "import", "package", "protected", "native", "volatile", "transient", "System", "Thread", "Object",
        "extends", "equals", "hashCode", "toString", "Float", "Double"};

    private static int wrong = 0;

    private static void fail(String what) {
        wrong++;
        System.out.println(what);
    }

    public static void main(String[] arguments) throws Exception {
        String source = Files.readString(Path.of("src/main/java/SqueezedCode.java"));
        String bare = source.replaceAll("(?s)/\\*.*?\\*/", "").replaceAll("//[^\n]*", "").replaceAll("\"[^\"\n]*\"", "\"\"");
        for (String word : FORBIDDEN) {
            if (Pattern.compile("\\b" + word + "\\b").matcher(bare).find()) {
                fail("the source has the word " + word);
            }
        }
        for (String sign : new String[] {"->", "::", " / ", " % ", "/=", "%=", "<>", "static {", "\" +", "+ \""}) {
            if (bare.contains(sign)) {
                fail("the source has " + sign);
            }
        }
        for (char c : source.toCharArray()) {
            if (c > 126) {
                fail("the source has a sign beyond ASCII: " + (int) c);
            }
        }
        lengthsOfMethods(bare);
        members();
        room();
        System.out.println(wrong == 0 ? "the rules looked at are kept" : wrong + " rules broken");
        if (wrong != 0) {
            System.exit(1);
        }
    }

    private static void lengthsOfMethods(String bare) {
        Matcher method = Pattern.compile("(?ms)^( {4}| {8})(?! )[^\n;=]*\\([^\n;]*\\) \\{\n.*?^\\1\\}").matcher(bare);
        int found = 0;
        while (method.find()) {
            found++;
            int lines = method.group().split("\n").length;
            if (lines > 60) {
                fail("a method of " + lines + " lines: " + method.group().split("\n")[0].trim());
            }
        }
        if (found < 60) {
            fail("only " + found + " methods found");
        }
    }

    private static void members() {
        Class<?>[] inside = SqueezedCode.class.getDeclaredClasses();
        if (inside.length + 1 > 12) {
            fail("too many classes");
        }
        Set<String> face = new TreeSet<>();
        for (Method method : SqueezedCode.class.getDeclaredMethods()) {
            if (Modifier.isPublic(method.getModifiers())) {
                face.add(method.getName());
            } else {
                mustBePrivate(method);
            }
        }
        if (face.size() != 27) {
            fail("the face has " + face.size() + " methods");
        }
        for (Field field : SqueezedCode.class.getDeclaredFields()) {
            if (!Modifier.isPublic(field.getModifiers())) {
                mustBePrivate(field);
            }
        }
        for (Class<?> one : inside) {
            if (!Modifier.isStatic(one.getModifiers()) || Modifier.isPublic(one.getModifiers())) {
                fail("class " + one + " is not static or is public");
            }
            for (Method method : one.getDeclaredMethods()) {
                if (face.contains(method.getName())) {
                    fail("a name of the face: " + method);
                }
            }
            if (one.getDeclaredFields().length > 20) {
                fail("too many fields: " + one);
            }
        }
    }

    private static void mustBePrivate(Member member) {
        if (!Modifier.isPrivate(member.getModifiers())) {
            fail("not private: " + member);
        }
    }

    /** No call makes an object: the constructor's rows are used again. */
    private static void room() {
        com.sun.management.ThreadMXBean threads =
                (com.sun.management.ThreadMXBean) java.lang.management.ManagementFactory.getThreadMXBean();
        threads.getCurrentThreadAllocatedBytes();
        SqueezedCode x = new SqueezedCode();
        long before = threads.getCurrentThreadAllocatedBytes();
        long answers = 0;
        for (int k = 0; k < 50; k++) {
            answers += x.write('h') + x.fault() + x.lay() + x.add(0, 2, 0) + x.gain(2, 3, -1) + x.choose(8);
            answers += x.drop(0) + x.undo() + x.hold(1 + k % 4) + x.wide(4 << k % 3) + x.start(k % 2) + x.step(400);
            answers += x.size(3) + x.now(2) + x.held(0) + x.out(0) + x.cell(0) + x.count(0) + x.seek(0) + x.entry(0, 3);
        }
        long made = threads.getCurrentThreadAllocatedBytes() - before;
        if (made > 4096) {
            fail("1000 calls made " + made + " bytes of objects (" + answers + ")");
        }
    }
}
