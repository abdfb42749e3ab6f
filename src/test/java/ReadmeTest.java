import java.lang.reflect.Method;
import java.lang.reflect.Modifier;
import java.nio.file.Files;
import java.nio.file.Path;
import java.util.HashSet;
import java.util.Set;
import java.util.regex.Matcher;
import java.util.regex.Pattern;

/** The run of calls that README.md shows answers as it says there, and its table names every call. */
public final class ReadmeTest {
    private static final Pattern CALL = Pattern.compile("^x\\.(\\w+)\\(([^)]*)\\); +// (\\S+)");
    private static final int AT_LEAST = 40;

    public static void main(String[] args) throws Exception {
        Due.says("README.md: a short run of calls with the answers that the document asks for");
        String text = Files.readString(Path.of("README.md"));
        shownRun(text);
        tableNamesAll(text);
        Due.finish();
    }

    private static void shownRun(String text) throws Exception {
        ThumbBallot x = new ThumbBallot();
        int calls = 0;
        for (String line : text.split("\n")) {
            if (line.startsWith("x.")) {
                Matcher m = CALL.matcher(line);
                Due.yes("a call with an answer: " + line, m.find());
                String got = answer(x, m.group(1), m.group(2));
                Due.yes(line + " (it answered " + got + ")", got.equals(m.group(3)));
                calls++;
            }
        }
        Due.yes("calls are shown: " + calls, calls >= AT_LEAST);
    }

    private static String answer(ThumbBallot x, String name, String list) throws Exception {
        String[] told = list.isEmpty() ? new String[0] : list.split(", ");
        for (Method m : ThumbBallot.class.getDeclaredMethods()) {
            if (m.getName().equals(name)) {
                Object[] with = new Object[told.length];
                for (int i = 0; i < told.length; i++) {
                    boolean truth = m.getParameterTypes()[i] == boolean.class;
                    with[i] = truth ? (Object) Boolean.valueOf(told[i]) : (Object) Integer.decode(told[i]);
                }
                return String.valueOf(m.invoke(x, with));
            }
        }
        return "no such call";
    }

    private static void tableNamesAll(String text) {
        Set<String> named = new HashSet<>();
        for (String line : text.split("\n")) {
            Matcher m = Pattern.compile("`(\\w+)`").matcher(line.startsWith("| ") ? line : "");
            while (m.find()) {
                named.add(m.group(1));
            }
        }
        for (Method m : ThumbBallot.class.getDeclaredMethods()) {
            if (Modifier.isPublic(m.getModifiers())) {
                Due.yes("named in the table: " + m.getName(), named.remove(m.getName()));
            }
        }
        Due.yes("names of no call: " + named, named.isEmpty());
    }
}
