import java.lang.reflect.Constructor;
import java.lang.reflect.Field;
import java.lang.reflect.Method;
import java.lang.reflect.Modifier;
import java.nio.file.Files;
import java.nio.file.Path;
import java.util.HashSet;
import java.util.List;
import java.util.Set;
import java.util.TreeSet;
import java.util.regex.Matcher;
import java.util.regex.Pattern;

/** The rules of LANGUAGE.md that can be seen from outside: the face, the words, the sizes. */
public final class LanguageTest {
    private static final String FACE = "state(1)I voter(4)I set(3)Z press(2)I lift(2)Z hand(2)Z hours(1)I feed(5)I "
            + "end(1)Z text(1)I fault(1)I of(2)I cell(3)I book(2)I goes(2)I wax(1)I whose(2)I could(1)I party(1)I "
            + "seats(3)I house(1)I parishes(2)I wish(1)I name(1)I middle(1)I candle(1)I candles(2)I door(2)I "
            + "stack(0)I stands(1)I lantern(2)I bill(2)I bills(1)I before(2)I order(0)I game(2)I undo(0)Z "
            + "image(1)Z look(1)I";

    public static void main(String[] args) throws Exception {
        face();
        classes();
        source();
        Due.finish();
    }

    private static void face() throws Exception {
        Set<String> due = new TreeSet<>(List.of(FACE.split(" ")));
        Set<String> is = new TreeSet<>();
        for (Method m : ThumbBallot.class.getDeclaredMethods()) {
            if (Modifier.isPublic(m.getModifiers())) {
                String type = m.getReturnType() == int.class ? "I" : m.getReturnType() == boolean.class ? "Z" : "?";
                is.add(m.getName() + "(" + m.getParameterCount() + ")" + type);
            } else {
                Due.yes("private " + m, Modifier.isPrivate(m.getModifiers()));
            }
        }
        Due.yes("the face " + is, is.equals(due));
        Constructor<?>[] made = ThumbBallot.class.getDeclaredConstructors();
        Due.is("constructors", made.length, 1);
        Due.yes("public", Modifier.isPublic(made[0].getModifiers()) && made[0].getParameterCount() == 0);
        Due.yes("final", Modifier.isFinal(ThumbBallot.class.getModifiers()));
        for (Field f : ThumbBallot.class.getDeclaredFields()) {
            Due.is("field " + f, Modifier.isPublic(f.getModifiers()), f.getName().equals("NONE"));
            Due.yes("field " + f, f.getName().equals("NONE") || Modifier.isPrivate(f.getModifiers()));
        }
        Due.is("NONE", ThumbBallot.NONE, -1);
    }

    private static void classes() {
        Set<String> face = new HashSet<>();
        for (String s : FACE.split(" ")) {
            face.add(s.substring(0, s.indexOf('(')));
        }
        Class<?>[] inside = ThumbBallot.class.getDeclaredClasses();
        Due.yes("at most twelve classes", inside.length + 1 <= 12);
        for (Class<?> c : inside) {
            Due.yes("static " + c, Modifier.isStatic(c.getModifiers()));
            int fields = 0;
            for (Field f : c.getDeclaredFields()) {
                boolean fixed = Modifier.isStatic(f.getModifiers());
                fields += fixed ? 0 : 1;
                Due.yes("static is final " + f, !fixed || Modifier.isFinal(f.getModifiers()));
            }
            Due.yes("fields of " + c, fields <= 20);
            for (Method m : c.getDeclaredMethods()) {
                Due.no("named as the face: " + m, face.contains(m.getName()));
                Due.yes("parameters of " + m, m.getParameterCount() <= 7);
            }
        }
    }

    private static void source() throws Exception {
        String text = Files.readString(Path.of("src/main/java/ThumbBallot.java"));
        Due.yes("signs 1 to 127", text.chars().allMatch(c -> c > 0 && c < 128));
        String code = text.replaceAll("(?s)/\\*.*?\\*/", "").replaceAll("//[^\n]*", "")
                .replaceAll("\"[^\"\n]*\"", "\"\"").replaceAll("'[^'\n]'", "'c'");
        String[] no = {"throw", "try", "catch", "finally", "synchronized", "assert", "package", "double", "float",
            "Object", "Exception", "native", "transient", "volatile"};
        for (String word : no) {
            Due.no(word, Pattern.compile("\\b" + word + "\\b").matcher(code).find());
        }
        Due.no("no lambda, no method reference", code.contains("->") || code.contains("::"));
        Due.no("no Exact", code.contains("Exact"));
        Matcher imports = Pattern.compile("import ([^;]*);").matcher(code);
        while (imports.find()) {
            Due.yes(imports.group(1), imports.group(1).equals("java.util.Arrays"));
        }
        Due.no("texts are not joined by +", code.contains("\"\" +") || code.contains("+ \"\""));
        Matcher library = Pattern.compile("\\b(Math|Integer|Long|Arrays|System|String)\\.(\\w+)").matcher(code);
        Set<String> fine = Set.of("abs", "min", "max", "compare", "bitCount", "fill", "copyOf", "arraycopy");
        while (library.find()) {
            Due.yes(library.group(), fine.contains(library.group(2)));
        }
        methodLengths(text);
    }

    private static void methodLengths(String text) {
        String[] lines = text.split("\n");
        Pattern head = Pattern.compile("^(    |        )(?! )[^=;]*\\)\\s*\\{$");
        for (int i = 0; i < lines.length; i++) {
            Matcher m = head.matcher(lines[i]);
            if (m.find()) {
                String end = m.group(1) + "}";
                int j = i;
                while (j < lines.length && !lines[j].equals(end)) {
                    j++;
                }
                Due.yes("length of " + lines[i].trim(), j - i + 1 <= 60);
            }
        }
    }
}
