import java.io.IOException;
import java.lang.reflect.Constructor;
import java.lang.reflect.Field;
import java.lang.reflect.Method;
import java.lang.reflect.Modifier;
import java.lang.reflect.Parameter;
import java.nio.file.Files;
import java.nio.file.Path;
import java.util.Set;
import java.util.StringJoiner;
import java.util.TreeSet;
import java.util.regex.Matcher;
import java.util.regex.Pattern;

/** The public face is the document's: each member that it lists, and no other one that can be seen. */
public final class FaceTest {
    private static final Check check = new Check("FaceTest");

    public static void main(String[] args) throws IOException {
        Set<String> told = told(Files.readString(Path.of("../shared/DOC.md")));
        Set<String> seen = seen();
        check.due("members that the document lists", told.size(), 42);
        for (String member : told) {
            check.due("missing: " + member, seen.contains(member) ? 0 : 1, 0);
        }
        for (String member : seen) {
            check.due("not in the document: " + member, told.contains(member) ? 0 : 1, 0);
        }
        check.due("a public final class", RopeMoon.class.getModifiers() & (Modifier.PUBLIC | Modifier.FINAL),
            Modifier.PUBLIC | Modifier.FINAL);
        for (Class<?> inside : RopeMoon.class.getDeclaredClasses()) {
            int bits = inside.getModifiers();
            check.due(inside + " is static", Modifier.isStatic(bits) ? 1 : 0, 1);
            check.due(inside + " is not to be seen", bits & (Modifier.PUBLIC | Modifier.PROTECTED), 0);
        }
        check.finish();
    }

    private static Set<String> told(String document) {
        Set<String> all = new TreeSet<>();
        Matcher block = Pattern.compile("(?s)```java\n(.*?)```").matcher(document);
        block.find();
        Matcher member = Pattern.compile("public ([^;{]*);").matcher(block.group(1));
        while (member.find()) {
            all.add(member.group(1).replaceAll(" \\w+(?=[,)])", "").replace("static final ", ""));
        }
        return all;
    }

    private static Set<String> seen() {
        Set<String> all = new TreeSet<>();
        for (Method m : RopeMoon.class.getDeclaredMethods()) {
            if (!Modifier.isPrivate(m.getModifiers()) && !m.isSynthetic()) {
                all.add(m.getReturnType() + " " + m.getName() + types(m.getParameters()));
            }
        }
        for (Constructor<?> c : RopeMoon.class.getDeclaredConstructors()) {
            if (!Modifier.isPrivate(c.getModifiers()) && !c.isSynthetic()) {
                all.add("RopeMoon" + types(c.getParameters()));
            }
        }
        for (Field f : RopeMoon.class.getDeclaredFields()) {
            if (!Modifier.isPrivate(f.getModifiers()) && !f.isSynthetic()) {
                all.add(f.getType() + " " + f.getName() + " = " + RopeMoon.NONE);
            }
        }
        return all;
    }

    private static String types(Parameter[] parameters) {
        StringJoiner all = new StringJoiner(", ", "(", ")");
        for (Parameter p : parameters) {
            all.add(p.getType().toString());
        }
        return all.toString();
    }
}
