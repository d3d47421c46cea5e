import java.io.IOException;
import java.lang.reflect.Method;
import java.lang.reflect.Modifier;
import java.nio.file.Files;
import java.nio.file.Path;
import java.util.List;
import java.util.regex.Matcher;
import java.util.regex.Pattern;
import java.util.stream.Stream;

/** README.md says how to use the class and how to run its tests, as they stand. */
public final class ReadmeTest {
    private static final Path README = Path.of("README.md");
    private static final Path TESTS = Path.of("src", "test", "java");
    private static final Pattern EXAMPLE = Pattern.compile("(?s)```java\n(.*?)```");
    private static final Pattern NAMED_TEST = Pattern.compile("`([A-Za-z]+Test)`");

    public static void main(String[] args) throws IOException {
        String readme = Files.readString(README);
        example();
        exampleIsTheSame(readme);
        testsAreNamed(readme);
        methodsAreNamed(readme);
        Check.end();
    }

    /** The lines of the example as they stand in README.md, with what each of them answers. */
    private static void example() {
        Check.part("the example of README.md");
        SnapshotFiles files = new SnapshotFiles();

        files.say(1);                       // user 1
        files.say(0);                       // the present tree
        files.send(0, 3, 0, 5);             // connection 0, tag 3, ATTACH, fid 5
        int attached = files.serve(0, 3);   // 0: it went well
        int mode = files.reply(2);          // 2559: a directory with all nine rights
        Check.same("attached", attached, 0);
        Check.same("mode", mode, 2559);

        files.say(7);                       // title
        files.say(420);                     // mode: all may read, the owner may write too
        files.say(2);                       // open for both
        files.send(0, 3, 3, 5);             // CREATE; fid 5 is at the new file then
        int created = files.serve(0, 3);    // 0
        Check.same("created", created, 0);

        files.say(0);                       // offset
        files.say(65);                      // a byte
        files.send(0, 3, 5, 5);             // WRITE
        int written = files.serve(0, 3);    // 1: how many bytes
        Check.same("written", written, 1);

        int kept = files.snapshot();        // 1: what ATTACH calls tree 1 from now on
        files.send(0, 3, 7, 5);             // REMOVE
        int removed = files.serve(0, 3);    // 0
        int left = files.nodes();           // 1: the root
        Check.same("kept", kept, 1);
        Check.same("removed", removed, 0);
        Check.same("left", left, 1);

        files.crash();                      // the present tree becomes the saved one
        int back = files.nodes();           // 2
        Check.same("back", back, 2);
    }

    private static void exampleIsTheSame(String readme) throws IOException {
        Check.part("the example is the one that this test runs");
        List<String> lines = Files.readAllLines(TESTS.resolve("ReadmeTest.java")).stream()
                .map(String::trim).toList();
        Matcher found = EXAMPLE.matcher(readme);
        Check.yes("there is one", found.find());
        int from = 0;
        for (String line : found.group(1).split("\n")) {
            if (!line.isBlank()) {
                int at = lines.subList(from, lines.size()).indexOf(line.trim());
                Check.yes(line, at >= 0);
                from += at + 1;
            }
        }
    }

    private static void testsAreNamed(String readme) throws IOException {
        Check.part("the tests");
        try (Stream<Path> files = Files.list(TESTS)) {
            for (Path file : files.toList()) {
                String name = file.getFileName().toString().replace(".java", "");
                Check.yes(name + " is named", readme.contains("`" + name + "`"));
            }
        }
        Matcher named = NAMED_TEST.matcher(readme);
        while (named.find()) {
            Check.yes(named.group(1) + " is there", Files.exists(TESTS.resolve(named.group(1) + ".java")));
        }
        Check.yes("how to run them", readme.contains("    .ci/run\n") && Files.exists(Path.of(".ci", "run")));
    }

    private static void methodsAreNamed(String readme) {
        Check.part("the methods of the face");
        for (Method method : SnapshotFiles.class.getDeclaredMethods()) {
            if (Modifier.isPublic(method.getModifiers())) {
                Check.yes(method.getName(), readme.contains("`" + method.getName() + "("));
            }
        }
    }
}
