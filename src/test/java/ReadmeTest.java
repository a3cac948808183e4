import java.io.IOException;
import java.nio.file.Files;
import java.nio.file.Path;
import java.util.List;
import java.util.Set;
import java.util.TreeSet;
import java.util.regex.MatchResult;
import java.util.regex.Matcher;
import java.util.regex.Pattern;
import java.util.stream.Collectors;
import java.util.stream.Stream;

/** What README.md says of using the class and of running its tests holds as it stands there. */
public final class ReadmeTest {
    private static final Path TESTS = Path.of("src/test/java");

    public static void main(String[] args) throws IOException, InterruptedException {
        String readme = Files.readString(Path.of("README.md"));
        try (Folder folder = new Folder()) {
            exampleHolds(readme, folder);
            commandsHold(readme, folder);
        }
        namesAreThere(readme);
        Expect.finish();
    }

    /** The example as a program; a line whose comment begins with an answer is to give that answer. */
    private static void exampleHolds(String readme, Folder folder) throws IOException, InterruptedException {
        Matcher block = Pattern.compile("```java\n(.*?)```", Pattern.DOTALL).matcher(readme);
        Expect.same(true, block.find());
        Matcher due = Pattern.compile("^(x\\..*);\\s*// (true|false|-?\\d+|'.')(?!\\w).*$", Pattern.MULTILINE)
                .matcher(block.group(1));
        List<MatchResult> answers = due.results().toList();
        Expect.same(List.of("true", "0", "'d'"), answers.stream().map(answer -> answer.group(2)).toList());
        folder.write("src/test/java/ExampleTest.java", "public final class ExampleTest {\n"
                + "public static void main(String[] args) {\n" + due.replaceAll("Expect.same($2, $1);")
                + "Expect.finish();\n}\n}\n");
        folder.copy("src/test/java/Expect.java");
        folder.copy("src/main/java/QuantityQuarry.java");
        Expect.same(0, folder.run(commandFor(readme, "ExampleTest")));
        Expect.same(answers.size() + " answers compared, 0 wrong\n", folder.printed());
    }

    /** The command that runs one test alone, for another test. */
    private static String commandFor(String readme, String test) {
        Matcher command = Pattern.compile("One test alone: `([^`]*)`").matcher(readme);
        Expect.same(true, command.find());
        return command.group(1).replace("RunTest", test).replace('\n', ' ');
    }

    private static void commandsHold(String readme, Folder folder) throws IOException, InterruptedException {
        for (String name : namesOfFiles()) {
            folder.copy(TESTS + "/" + name);
        }
        Expect.same(0, folder.run(commandFor(readme, "RunTest")));
        Expect.same(true, folder.printed().endsWith(", 0 wrong\n"));
        Expect.same(true, readme.contains("`ModelTest` takes the number of languages to make up (`ModelTest 5000`)"));
        Expect.same(0, folder.run(commandFor(readme, "ModelTest") + " 5"));
        Expect.same("the program answers as PlainModel does\n", folder.printed());
        Expect.same(0, folder.run("java -cp build ModelTest 5 x"));
        Expect.same(true, folder.printed().contains("\nrefusal -: "));
    }

    private static Set<String> namesOfFiles() throws IOException {
        try (Stream<Path> files = Files.list(TESTS)) {
            return files.map(file -> file.getFileName().toString()).collect(Collectors.toCollection(TreeSet::new));
        }
    }

    /** The table has each test and no other one, and what README.md points to is there. */
    private static void namesAreThere(String readme) throws IOException {
        Set<String> tests = namesOfFiles().stream().filter(name -> name.endsWith("Test.java"))
                .map(name -> name.replace(".java", "")).collect(Collectors.toCollection(TreeSet::new));
        Set<String> told = new TreeSet<>();
        readme.lines().filter(line -> line.startsWith("| `")).forEach(line -> Pattern.compile("`(\\w+Test)`")
                .matcher(line.split("\\|")[1]).results().forEach(name -> told.add(name.group(1))));
        Expect.same(tests, told);
        for (String name : new String[] {"src/main/java/QuantityQuarry.java", "../shared/DOC.md",
            "../shared/LANGUAGE.md", "../shared/tests", ".ci/run", "NOTES.md"}) {
            Expect.same(name + " " + true, name + " " + (readme.contains("`" + name + "`")
                    && Files.exists(Path.of(name))));
        }
        Expect.same(true, Files.isExecutable(Path.of(".ci/run")));
    }
}
