import java.lang.reflect.Method;
import java.lang.reflect.Modifier;
import java.nio.file.Files;
import java.nio.file.Path;
import java.util.List;
import java.util.regex.Matcher;
import java.util.regex.Pattern;

/** README.md's example is carried out line by line, so that the page can't tell what is no longer so. */
public final class ReadmeExample {
    private static final Path PAGE = Path.of("README.md");
    private static final Pattern TOLD_TEXT = Pattern.compile("for \\(char letter : \"(.*)\"\\.toCharArray\\(\\)\\) \\{");
    private static final Pattern CALL = Pattern.compile("x\\.(\\w+)\\(([-0-9, ]*)\\); +// (-?\\d+).*");
    /** What the example needs besides its calls. */
    private static final List<String> FRAME =
            List.of("RopeDance x = new RopeDance();", "    x.write(letter);", "}");
    private static int wrong = 0;

    public static void main(String[] args) throws Exception {
        String page = Files.readString(PAGE);
        int asked = carryOut(page);
        hold(asked >= 20, "the example asks for answers");
        tableHasEveryCall(page);
        System.out.println(asked + " answers of the page, " + wrong + " faults");
        if (wrong != 0) {
            System.exit(1);
        }
    }

    private static void hold(boolean so, String what) {
        if (!so) {
            wrong++;
            System.out.println("not so: " + what);
        }
    }

    private static int carryOut(String page) throws Exception {
        int begin = page.indexOf("```java\n");
        int end = begin < 0 ? -1 : page.indexOf("\n```\n", begin);
        if (end < 0) {
            hold(false, "the page has an example");
            return 0;
        }
        RopeDance x = new RopeDance();
        int asked = 0;
        for (String line : page.substring(begin + 8, end).split("\n")) {
            Matcher text = TOLD_TEXT.matcher(line);
            Matcher call = CALL.matcher(line);
            if (text.matches()) {
                Dances.tell(x, text.group(1));
            } else if (call.matches()) {
                int got = answer(x, call.group(1), call.group(2));
                hold(got == Integer.parseInt(call.group(3)), line + " (answered " + got + ")");
                asked++;
            } else {
                hold(FRAME.contains(line), "a line that can be carried out: " + line);
            }
        }
        return asked;
    }

    private static int answer(RopeDance x, String name, String numbers) throws Exception {
        String[] told = numbers.isBlank() ? new String[0] : numbers.split(", ");
        Object[] values = new Object[told.length];
        Class<?>[] types = new Class<?>[told.length];
        for (int i = 0; i < told.length; i++) {
            values[i] = Integer.parseInt(told[i]);
            types[i] = int.class;
        }
        return (int) RopeDance.class.getMethod(name, types).invoke(x, values);
    }

    private static void tableHasEveryCall(String page) {
        for (Method m : RopeDance.class.getDeclaredMethods()) {
            if (Modifier.isPublic(m.getModifiers())) {
                hold(Pattern.compile("(?m)^\\|.*`" + m.getName() + "\\([a-z, ]*\\)`.*\\|$").matcher(page).find(),
                        m.getName() + " is in the table");
            }
        }
    }
}
