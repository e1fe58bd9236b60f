import java.io.IOException;
import java.lang.reflect.Method;
import java.nio.charset.StandardCharsets;
import java.nio.file.Files;
import java.nio.file.Path;
import java.util.regex.Matcher;
import java.util.regex.Pattern;

/** The calls that README.md shows are made as they stand there, and their answers held against those behind them. */
public final class ReadmeTest {
    private static final Pattern SHOWN = Pattern.compile("(x|Texts)\\.(\\w+)\\((.*)\\);\\s+// (-?\\w+).*");

    private static int wrong;

    private static void due(String call, Object got, Object want) {
        if (!got.equals(want)) {
            wrong++;
            System.out.println("README.md: " + call + " answered " + got + ", there it is " + want);
        }
    }

    public static void main(String[] args) throws IOException, ReflectiveOperationException {
        String readme = Files.readString(Path.of("README.md"), StandardCharsets.UTF_8);
        String text = block(readme, "text");
        int many = 0;
        SaintTheft x = new SaintTheft();
        for (String line : block(readme, "java").split("\n")) {
            Matcher shown = SHOWN.matcher(line);
            if (shown.matches()) {
                due(line, answer(x, text, shown.group(2), shown.group(3)), shown.group(4));
                many++;
            } else {
                due(line, line.isEmpty() || line.startsWith("SaintTheft x = new"), true);
            }
        }
        due("some calls are shown", many > 20, true);
        for (Method method : SaintTheft.class.getDeclaredMethods()) {
            boolean isOpen = java.lang.reflect.Modifier.isPublic(method.getModifiers());
            due(method.getName() + " is told of", !isOpen || readme.contains("`" + method.getName() + "`"), true);
        }
        System.out.println(wrong == 0 ? many + " calls of README.md are as shown" : wrong + " are not as shown");
        if (wrong != 0) {
            System.exit(1);
        }
    }

    private static String block(String readme, String kind) {
        String head = "```" + kind + "\n";
        int from = readme.indexOf(head);
        int end = from < 0 ? -1 : readme.indexOf("```", from + head.length());
        return end < 0 ? "" : readme.substring(from + head.length(), end);
    }

    private static String answer(SaintTheft x, String text, String name, String args)
            throws ReflectiveOperationException {
        if (args.startsWith("x, ")) {
            return "" + Texts.read(x, args.equals("x, text") ? text : args.substring(4, args.length() - 1));
        }
        String[] each = args.isEmpty() ? new String[0] : args.split(", ");
        Class<?>[] types = new Class<?>[each.length];
        Object[] values = new Object[each.length];
        for (int i = 0; i < each.length; i++) {
            boolean isTruth = each[i].equals("true") || each[i].equals("false");
            types[i] = isTruth ? boolean.class : int.class;
            values[i] = isTruth ? (Object) Boolean.valueOf(each[i]) : (Object) Integer.decode(each[i]);
        }
        return "" + SaintTheft.class.getMethod(name, types).invoke(x, values);
    }
}
