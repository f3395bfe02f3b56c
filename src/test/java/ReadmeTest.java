import java.io.IOException;
import java.lang.reflect.Method;
import java.lang.reflect.Modifier;
import java.nio.file.Files;
import java.nio.file.Path;
import java.util.List;
import java.util.stream.Stream;

/** README.md's example does what it says, and README.md leaves out no call and no test. */
public final class ReadmeTest {
    private static final String TESTS = "src/test/java";

    private final Checks checks = new Checks();
    private final Path root;
    private final String readme;

    private ReadmeTest(Path root) throws IOException {
        this.root = root;
        readme = Files.readString(root.resolve("README.md"));
    }

    public static void main(String[] args) throws IOException {
        ReadmeTest test = new ReadmeTest(Path.of(args.length > 0 ? args[0] : "."));
        test.exampleAnswers();
        test.exampleIsTheOneInTheReadme();
        test.everyCallIsNamed();
        test.everyTestIsNamed();
        test.checks.end();
    }

    private void exampleAnswers() {
        // example from here
        SealedFragmentRegister x = new SealedFragmentRegister(4, 2, 1);
        x.write(0, 42);                     // client 0 begins to ask every server
        for (int phase = 1; phase <= 3; phase++) {
            for (int s = 0; s < x.quorum(); s++) {
                x.deliver(0, s, 0);         // server s does its part and replies
                x.hear(0, s, 0);            // 1: phase goes on, 2: next phase begins, 3: finished
            }
        }
        x.crash(0);                         // of four servers with K = 2 one may crash
        x.read(1);                          // client 1 begins to look for the newest tag
        for (int phase = 4; phase <= 5; phase++) {
            for (int s = 1; s <= x.quorum(); s++) {
                x.deliver(1, s, 0);
                x.hear(1, s, 0);
            }
        }
        long block = x.result(1);           // 42
        // example to here
        checks.due("result(1)", block, 42);
        checks.due("a second crash", x.crash(1), false);
        checks.due("finished(0)", x.finished(0), 1);
        checks.due("finished(1)", x.finished(1), 1);
        checks.due("seal of the server that was left out of the write", x.seal(3), 8);
    }

    private void exampleIsTheOneInTheReadme() throws IOException {
        String source = Files.readString(root.resolve(TESTS).resolve("ReadmeTest.java"));
        List<String> here = between(source, "// example from here\n", "// example to here");
        List<String> there = between(readme, "```java\n", "```");
        checks.due("lines of the example", there.size(), here.size());
        for (int i = 0; i < Math.min(here.size(), there.size()); i++) {
            checks.due("same as here: " + there.get(i), there.get(i).equals(here.get(i)), true);
        }
    }

    private static List<String> between(String text, String from, String to) {
        int start = text.indexOf(from) + from.length();
        return text.substring(start, text.indexOf(to, start)).strip().lines()
            .map(String::strip).toList();
    }

    private void everyCallIsNamed() {
        for (Method method : SealedFragmentRegister.class.getDeclaredMethods()) {
            if (Modifier.isPublic(method.getModifiers())) {
                String call = "`" + method.getName() + "(";
                checks.due("in the README: " + call, readme.contains(call), true);
            }
        }
    }

    private void everyTestIsNamed() throws IOException {
        try (Stream<Path> files = Files.list(root.resolve(TESTS))) {
            for (Path file : files.toList()) {
                String name = file.getFileName().toString().replace(".java", "");
                if (name.endsWith("Test")) {
                    checks.due("in the README: " + name, readme.contains("- `" + name + "`:"), true);
                }
            }
        }
    }
}
