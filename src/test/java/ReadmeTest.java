import java.lang.reflect.InvocationTargetException;
import java.lang.reflect.Method;
import java.nio.file.Files;
import java.nio.file.Path;
import java.util.List;
import java.util.regex.Matcher;
import java.util.regex.Pattern;

/** Plays the example of README.md: each line's call must answer what the line says behind it. */
public final class ReadmeTest {
    private static final Pattern LINE = Pattern.compile("x\\.(\\w+)\\((.*)\\);\\s+// (-?\\w+):.*");
    private static final String START = "CheckRestart x = new CheckRestart();";

    private static Object argument(Class<?> type, String text) {
        return type == long.class ? (Object) Long.parseLong(text) : (Object) Integer.parseInt(text);
    }

    private static String answer(CheckRestart x, String name, String inside) throws IllegalAccessException {
        String[] texts = inside.isEmpty() ? new String[0] : inside.split(", ");
        for (Method m : CheckRestart.class.getDeclaredMethods()) {
            if (!m.getName().equals(name) || m.getParameterCount() != texts.length) continue;
            Object[] arguments = new Object[texts.length];
            for (int i = 0; i < texts.length; i++) {
                arguments[i] = argument(m.getParameterTypes()[i], texts[i]);
            }
            try {
                return String.valueOf(m.invoke(x, arguments));
            } catch (InvocationTargetException e) {
                return e.getCause().getClass().getSimpleName();
            }
        }
        return "no such call";
    }

    public static void main(String[] args) throws Exception {
        List<String> lines = Files.readAllLines(Path.of("README.md"));
        int start = lines.indexOf(START);
        CheckRestart x = new CheckRestart();
        int played = 0;
        int wrong = start < 0 ? 1 : 0;
        for (int i = start + 1; start >= 0 && !lines.get(i).equals("```"); i++) {
            Matcher line = LINE.matcher(lines.get(i));
            String got = line.matches() ? answer(x, line.group(1), line.group(2)) : "a line that cannot be played";
            played++;
            if (!line.matches() || !got.equals(line.group(3))) {
                wrong++;
                System.out.println(lines.get(i) + " answered " + got);
            }
        }
        System.out.println(played + " lines of the example played, " + wrong + " wrong");
        if (wrong != 0 || played == 0) {
            System.exit(1);
        }
    }
}
