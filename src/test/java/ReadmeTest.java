import java.lang.reflect.Method;
import java.lang.reflect.Modifier;
import java.nio.charset.StandardCharsets;
import java.nio.file.Files;
import java.nio.file.Path;
import java.util.HashSet;
import java.util.List;
import java.util.Set;
import java.util.regex.Matcher;
import java.util.regex.Pattern;

/** Does the calls that README.md shows, on one object and in their order, and compares with the answers it tells. */
public final class ReadmeTest {
    private static final Pattern CALL = Pattern.compile("whip\\.(\\w+)\\((.*)\\); +// (-?\\d+|[A-Z]+)\\b.*");
    private static final Pattern TEXT = Pattern.compile("tell\\(whip, \"([^\"]*)\"\\);");
    private static final String MADE = "WhipCrack whip = new WhipCrack();";
    private static final Check check = new Check("ReadmeTest");
    private static final Set<String> shown = new HashSet<>();

    public static void main(String[] args) throws Exception {
        WhipCrack whip = null;
        boolean isCode = false;
        List<String> page = Files.readAllLines(Path.of("README.md"), StandardCharsets.UTF_8);
        for (String line : page) {
            if (line.startsWith("```")) {
                isCode = line.equals("```java");
            } else if (isCode && line.startsWith(MADE)) {
                check.holds("one object is made", whip == null);
                whip = new WhipCrack();
            } else if (isCode && !line.isBlank()) {
                doLine(whip, line);
            }
        }
        for (Method m : WhipCrack.class.getDeclaredMethods()) {
            boolean isCall = Modifier.isPublic(m.getModifiers());
            check.holds("README.md shows " + m.getName(), !isCall || shown.contains(m.getName()));
        }
        check.end();
    }

    private static void doLine(WhipCrack whip, String line) throws Exception {
        Matcher call = CALL.matcher(line);
        Matcher text = TEXT.matcher(line);
        if (text.matches()) {
            Check.feed(whip, text.group(1));
        } else if (call.matches()) {
            shown.add(call.group(1));
            check.due(line, answer(whip, call.group(1), call.group(2)), number(call.group(3)));
        } else {
            check.holds("a call without an answer: " + line, !line.startsWith("whip.") && !line.startsWith("tell("));
        }
    }

    private static long answer(WhipCrack whip, String name, String told) throws Exception {
        String[] words = told.isEmpty() ? new String[0] : told.split(", *");
        for (Method m : WhipCrack.class.getMethods()) {
            if (m.getName().equals(name) && m.getParameterCount() == words.length) {
                Object[] given = new Object[words.length];
                for (int i = 0; i < given.length; i++) {
                    boolean isLong = m.getParameterTypes()[i] == long.class;
                    given[i] = isLong ? (Object) number(words[i]) : (Object) (int) number(words[i]);
                }
                return ((Number) m.invoke(whip, given)).longValue();
            }
        }
        throw new IllegalArgumentException("no such call: " + name + "(" + told + ")");
    }

    /** A number as Java writes it: in figures, in hex with an L, a sign's, or a constant of the class. */
    private static long number(String word) throws Exception {
        if (word.startsWith("'")) {
            return word.charAt(1);
        }
        if (word.startsWith("0x")) {
            return Long.parseLong(word.substring(2, word.length() - 1).replace("_", ""), 16);
        }
        if (Character.isUpperCase(word.charAt(0))) {
            return WhipCrack.class.getField(word.replace("WhipCrack.", "")).getInt(null);
        }
        return Long.parseLong(word);
    }
}
