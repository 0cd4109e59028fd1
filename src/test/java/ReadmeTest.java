import java.lang.reflect.Method;
import java.lang.reflect.Modifier;
import java.nio.file.Files;
import java.nio.file.Path;
import java.util.HashMap;
import java.util.List;
import java.util.Map;
import java.util.regex.Matcher;
import java.util.regex.Pattern;

/** What README.md tells is so: the answers behind its calls, and that it names each call of the face. */
public final class ReadmeTest extends Due {
    private static final Pattern SAID = Pattern.compile("say\\(milk, \"([^\"]*)\"\\);");
    private static final Pattern CALL = Pattern.compile("milk\\.(\\w+)\\(([^)]*)\\);\\s*// (-?\\d+).*");

    private static Map<String, Method> face() {
        Map<String, Method> face = new HashMap<>();
        for (Method method : TurningMilk.class.getDeclaredMethods()) {
            if (Modifier.isPublic(method.getModifiers())) {
                face.put(method.getName(), method);
            }
        }
        return face;
    }

    private static int answer(TurningMilk milk, Method method, String told) throws ReflectiveOperationException {
        String[] words = told.isEmpty() ? new String[0] : told.split(", ");
        Object[] numbers = new Object[words.length];
        for (int i = 0; i < words.length; i++) {
            numbers[i] = Integer.valueOf(words[i]);
        }
        return (int) method.invoke(milk, numbers);
    }

    /** How many answers were told. */
    private static int goThrough(List<String> lines, Map<String, Method> face) throws ReflectiveOperationException {
        TurningMilk milk = new TurningMilk();
        int answers = 0;
        for (String line : lines) {
            Matcher said = SAID.matcher(line);
            Matcher call = CALL.matcher(line);
            if (said.matches()) {
                say(milk, said.group(1));
            } else if (call.matches()) {
                due(line, answer(milk, face.get(call.group(1)), call.group(2)), Integer.parseInt(call.group(3)));
                answers++;
            }
        }
        return answers;
    }

    public static void main(String[] args) throws Exception {
        List<String> lines = Files.readAllLines(Path.of("README.md"));
        Map<String, Method> face = face();
        sentence("README.md: the answers behind its calls");
        due("calls with an answer", goThrough(lines, face), 21);
        sentence("README.md: the table of calls");
        for (Method method : face.values()) {
            String named = "`" + method.getName() + "(";
            if (lines.stream().noneMatch(line -> line.startsWith("| ") && line.contains(named))) {
                wrong(method.getName() + " is not named");
            }
        }
        finish();
    }
}
