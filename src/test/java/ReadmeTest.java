import java.io.IOException;
import java.lang.reflect.Method;
import java.lang.reflect.Modifier;
import java.nio.file.Files;
import java.nio.file.Path;
import java.util.regex.Matcher;
import java.util.regex.Pattern;

/** The examples of README.md answer as it says, and each call of the class is named in it. */
public final class ReadmeTest {
    private static final Check check = new Check("ReadmeTest");
    private static final Pattern CALL = Pattern.compile("moon\\.(\\w+)\\(([^)]*)\\);(?:\\s*// (-?\\d+):)?");

    public static void main(String[] args) throws ReflectiveOperationException, IOException {
        String readme = Files.readString(Path.of("README.md"));
        Matcher block = Pattern.compile("(?s)```java\n(.*?)```").matcher(readme);
        int blocks = 0;
        while (block.find()) {
            blocks++;
            follow(block.group(1));
        }
        check.due("examples in README.md", blocks, 2);
        for (Method m : RopeMoon.class.getDeclaredMethods()) {
            if (Modifier.isPublic(m.getModifiers())) {
                check.due("README.md names " + m.getName(), readme.contains("`" + m.getName() + "`") ? 1 : 0, 1);
            }
        }
        check.finish();
    }

    private static void follow(String example) throws ReflectiveOperationException {
        RopeMoon moon = new RopeMoon();
        Matcher call = CALL.matcher(example);
        while (call.find()) {
            long got = answer(moon, call.group(1), call.group(2).split(", *"));
            if (call.group(3) != null) {
                check.due("moon." + call.group(1) + "(" + call.group(2) + ")", got, Long.parseLong(call.group(3)));
            }
        }
    }

    private static long answer(RopeMoon moon, String name, String[] told) throws ReflectiveOperationException {
        for (Method m : RopeMoon.class.getDeclaredMethods()) {
            if (m.getName().equals(name) && Modifier.isPublic(m.getModifiers())) {
                Object[] arguments = new Object[told.length];
                for (int i = 0; i < told.length; i++) {
                    long v = Long.decode(told[i]);
                    arguments[i] = m.getParameterTypes()[i] == long.class ? (Object) v : (Object) (int) v;
                }
                return ((Number) m.invoke(moon, arguments)).longValue();
            }
        }
        throw new NoSuchMethodException(name);
    }
}
