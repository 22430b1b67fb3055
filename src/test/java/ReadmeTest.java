import java.lang.reflect.Method;
import java.lang.reflect.Modifier;
import java.nio.charset.StandardCharsets;
import java.nio.file.Files;
import java.nio.file.Path;
import java.nio.file.Paths;
import java.util.regex.Matcher;
import java.util.regex.Pattern;

/** README.md says what is so: its text can be read, its calls answer as told, and no call of the face is left out. */
public final class ReadmeTest {
    private static final Pattern BLOCK = Pattern.compile("```(\\w+)\n(.*?)```", Pattern.DOTALL);
    private static final Pattern CALL =
        Pattern.compile("court\\.(\\w+)\\(([^)]*)\\); +// (-?\\d+|true|false)(:.*)?");

    public static void main(String[] args) throws Exception {
        Path page = Paths.get(args[0]);
        String readme = content(page);
        LieClock court = new LieClock();
        Check.part("the text");
        Check.due("read() of it", tell(court, block(readme, "text", "fact")), 0);
        calls(court, block(readme, "java", "court.states"));
        helpers(block(readme, "java", "static int tell"), content(page.resolveSibling("src/test/java/ReadmeTest.java")));
        face(readme);
        Check.end();
    }

    static int tell(LieClock court, String text) {
        StringBuilder row = new StringBuilder(text);
        while (row.length() % 20 != 0) row.append(' ');
        for (int i = 0; i < row.length(); i += 20) {
            court.feed(four(row, i), four(row, i + 4), four(row, i + 8), four(row, i + 12), four(row, i + 16));
        }
        return court.read();
    }

    static int four(StringBuilder row, int i) {
        return row.charAt(i) << 24 | row.charAt(i + 1) << 16 | row.charAt(i + 2) << 8 | row.charAt(i + 3);
    }

    private static String content(Path file) throws Exception {
        return new String(Files.readAllBytes(file), StandardCharsets.ISO_8859_1);
    }

    /** The first block of a kind that begins so; empty if there is none. */
    private static String block(String readme, String kind, String begin) {
        Matcher m = BLOCK.matcher(readme);
        while (m.find()) {
            if (m.group(1).equals(kind) && m.group(2).startsWith(begin)) return m.group(2);
        }
        Check.due("a block of " + kind + " that begins with " + begin, false, true);
        return "";
    }

    /** Each line of the block is a call with its answer, so that none goes unasked. */
    private static void calls(LieClock court, String block) throws Exception {
        Check.part("the calls");
        for (String line : block.split("\n")) {
            Matcher m = CALL.matcher(line);
            boolean told = m.matches();
            Check.due("a call and its answer: " + line, told, true);
            if (told) Check.due(line, answer(court, m.group(1), m.group(2)), number(m.group(3)));
        }
    }

    private static long answer(LieClock court, String name, String list) throws Exception {
        String[] words = list.isEmpty() ? new String[0] : list.split(", ");
        for (Method m : LieClock.class.getDeclaredMethods()) {
            if (!m.getName().equals(name) || m.getParameterCount() != words.length) continue;
            Object[] values = new Object[words.length];
            for (int i = 0; i < words.length; i++) {
                boolean yesOrNo = m.getParameterTypes()[i] == boolean.class;
                values[i] = yesOrNo ? (Object) Boolean.valueOf(words[i]) : (Object) Integer.valueOf(words[i]);
            }
            return number(m.invoke(court, values).toString());
        }
        Check.due("there is a call " + name, false, true);
        return 0;
    }

    private static long number(String answer) {
        if (answer.equals("true")) return 1;
        return answer.equals("false") ? 0 : Long.parseLong(answer);
    }

    /** The page's way to tell a text is the one that this test goes, line by line. */
    private static void helpers(String shown, String own) {
        Check.part("the way to tell a text");
        for (String line : shown.split("\n")) {
            Check.due("this test has: " + line, own.contains(line.isEmpty() ? "" : "    " + line + "\n"), true);
        }
    }

    private static void face(String readme) {
        Check.part("the calls named");
        Check.due("LieClock()", readme.contains("`LieClock()`"), true);
        for (Method m : LieClock.class.getDeclaredMethods()) {
            if (Modifier.isPublic(m.getModifiers())) {
                Check.due(m.getName(), readme.contains("\n| `" + m.getName() + "("), true);
            }
        }
    }
}
