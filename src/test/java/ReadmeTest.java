import java.io.IOException;
import java.lang.reflect.Method;
import java.nio.file.Files;
import java.nio.file.Path;
import java.util.regex.Matcher;
import java.util.regex.Pattern;

/** Plays the example of README.md, and looks for each call of the face, with its parameters, in its table. */
public final class ReadmeTest {
    private static final Pattern CALL = Pattern.compile("kernel\\.(\\w+)\\(([^)]*)\\);\\s*// (-?\\w+).*");
    private static int wrong = 0;

    public static void main(String[] args) throws IOException {
        String text = Files.readString(Path.of("README.md"));
        int calls = playExample(text);
        check(calls > 0, "README.md has an example");
        for (Method m : Calls.methods()) {
            String row = "\\| `" + m.getName() + "\\(\\w+" + ", \\w+".repeat(m.getParameterCount() - 1) + "\\)` \\|";
            check(Pattern.compile(row).matcher(text).find(), "README.md tells of " + m.getName());
        }
        System.out.println("README.md: " + calls + " calls, wrong: " + wrong);
        System.exit(wrong == 0 ? 0 : 1);
    }

    private static int playExample(String text) {
        XactKernel kernel = null;
        int calls = 0;
        for (String line : text.split("\n")) {
            Matcher call = CALL.matcher(line);
            if (line.equals("XactKernel kernel = new XactKernel();")) {
                kernel = new XactKernel();
            } else if (kernel != null && call.matches()) {
                calls++;
                String written = call.group(1) + " " + call.group(2).replace(",", "");
                String got = Calls.answer(kernel, written);
                check(got.equals(call.group(3).replace("Exception", "")), line + " answered " + got);
            } else {
                check(!line.startsWith("kernel."), "no call with its answer: " + line);
            }
        }
        return calls;
    }

    private static void check(boolean holds, String what) {
        if (!holds) {
            wrong++;
            System.out.println("does not hold: " + what);
        }
    }
}
