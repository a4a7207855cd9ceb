import java.lang.reflect.Method;
import java.lang.reflect.Modifier;
import java.nio.file.Files;
import java.nio.file.Path;
import java.util.regex.Matcher;
import java.util.regex.Pattern;

/** That README.md tells the truth: its example answers as it says, its text is that example, it names every call. */
public final class ReadmeTest {
    private static int passed = 0;
    private static int failed = 0;

    private static void check(String what, boolean holds) {
        if (holds) {
            passed++;
        } else {
            failed++;
            System.out.println("README.md, not so: " + what);
        }
    }

    public static void main(String[] args) throws Exception {
        String readme = Files.readString(Path.of("README.md"));
        FairDraws draws = example(readme);
        sameAsText(readme, draws);
        namesEveryCall(readme);
        System.out.println("ReadmeTest: " + passed + " passed, " + failed + " failed");
        if (failed > 0) {
            System.exit(1);
        }
    }

    /** Each line of the example's block is a call with its answer; the object on which they were made. */
    private static FairDraws example(String readme) {
        Matcher block = Pattern.compile("```java\\n(.*?)```", Pattern.DOTALL).matcher(readme);
        check("there is an example", block.find());
        String[] lines = block.group(1).split("\n");
        check("it begins with a new object", lines[0].equals("FairDraws draws = new FairDraws();"));
        FairDraws draws = new FairDraws();
        for (int n = 1; n < lines.length; n++) {
            Matcher line = Pattern.compile("draws\\.(\\w+\\(.*?\\)); *// (-?\\d+): .+").matcher(lines[n]);
            boolean is = line.matches();
            check("a call with its answer: " + lines[n], is);
            if (is) {
                long got = World.call(draws, line.group(1).replace("FairDraws.NONE", "-1"));
                check(lines[n] + " - it answered " + got, got == Long.parseLong(line.group(2)));
            }
        }
        return draws;
    }

    private static void sameAsText(String readme, FairDraws draws) {
        Matcher text = Pattern.compile("A text, for example: `(.*?)`").matcher(readme);
        check("there is a text", text.find());
        FairDraws other = new FairDraws();
        World.lay(other, text.group(1));
        check("the text has no fault", other.tell() >= 0);
        check("the text tells as many bytes", other.told(-1) == draws.told(-1));
        for (int k = 0; k < draws.told(-1); k++) {
            check("the text tells the same at " + k, other.told(k) == draws.told(k));
        }
    }

    private static void namesEveryCall(String readme) {
        for (Method method : FairDraws.class.getDeclaredMethods()) {
            if (Modifier.isPublic(method.getModifiers())) {
                check(method.getName() + " is named", readme.contains("`" + method.getName() + "`"));
            }
        }
    }
}
