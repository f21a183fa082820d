import java.lang.reflect.Method;
import java.lang.reflect.Modifier;
import java.nio.file.Files;
import java.nio.file.Path;
import java.util.regex.Matcher;
import java.util.regex.Pattern;

/** README.md: its examples answer as it says, and it names every call (run from the project's folder). */
public final class ReadmeTest extends Check {
    private static final Pattern EXAMPLE = Pattern.compile("spirit\\.(\\w+)\\(([^)]*)\\); +// (-?\\d+):.*");
    private static final Pattern TEXT = Pattern.compile("String text = \"(.*)\";");
    private static final int EXAMPLES = 13;

    public static void main(String[] args) throws Exception {
        String page = Files.readString(Path.of("README.md"));
        examplesAnswer(page);
        namesEveryCall(page);
        end("README.md says what is so");
    }

    private static void examplesAnswer(String page) throws Exception {
        JarSpirit spirit = new JarSpirit();
        int examples = 0;
        for (String line : page.split("\n")) {
            Matcher text = TEXT.matcher(line);
            if (text.matches()) {
                type(spirit, text.group(1));
            }
            Matcher example = EXAMPLE.matcher(line);
            if (example.matches()) {
                examples++;
                long got = answer(spirit, example.group(1), example.group(2));
                due("README's " + example.group(1), got, Long.parseLong(example.group(3)));
            }
        }
        due("examples in README.md", examples, EXAMPLES);
        due("README's last one is a LIAR", spirit.now(0), LIAR);
        due("README's last one is", spirit.now(6), IN);
    }

    private static long answer(JarSpirit spirit, String name, String given) throws Exception {
        String[] told = given.isEmpty() ? new String[0] : given.split(", ");
        Object[] numbers = new Object[told.length];
        Class<?>[] types = new Class<?>[told.length];
        for (int i = 0; i < told.length; i++) {
            numbers[i] = Integer.parseInt(told[i]);
            types[i] = int.class;
        }
        return ((Number) JarSpirit.class.getMethod(name, types).invoke(spirit, numbers)).longValue();
    }

    private static void namesEveryCall(String page) {
        for (Method m : JarSpirit.class.getDeclaredMethods()) {
            if (Modifier.isPublic(m.getModifiers())) {
                String row = "\\| `" + m.getName() + "\\(" + "\\w+(, )?".repeat(m.getParameterCount()) + "\\)` \\|";
                due("README.md names " + m.getName(), Pattern.compile(row).matcher(page).find() ? 1 : 0, 1);
            }
        }
    }
}
