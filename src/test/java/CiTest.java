import java.io.IOException;

/** .ci/run runs every test, finds ../shared from anywhere, and fails if a test fails or cannot be compiled. */
public final class CiTest {
    private static final String CLASS = "public final class QuantityQuarry { }\n";
    private static final String GOOD = "System.out.println(\"NAME was run\");";
    private static final String BAD = "System.exit(1);";
    private static final String THROWS = "throw new IllegalStateException();";
    private static final String WRONG = "no Java";

    public static void main(String[] args) throws IOException, InterruptedException {
        answers(0, "4 passed, 0 failed", CLASS, "AOwnTest", GOOD, "BOwnTest", GOOD, "AShared", GOOD, "BShared", GOOD);
        answers(1, "2 passed, 1 failed", CLASS, "AOwnTest", BAD, "BOwnTest", GOOD, "AShared", GOOD);
        answers(1, "2 passed, 1 failed", CLASS, "AOwnTest", GOOD, "AShared", BAD, "BShared", GOOD);
        answers(1, "1 passed, 1 failed", CLASS, "AOwnTest", THROWS, "AShared", GOOD);
        answers(1, "1 passed, 1 failed", CLASS, "AOwnTest", WRONG, "AShared", GOOD);
        answers(1, "1 passed, 1 failed", CLASS, "AOwnTest", GOOD, "AShared", WRONG);
        answers(1, "0 passed, 2 failed", WRONG, "AOwnTest", GOOD, "AShared", GOOD);
        answers(1, "1 passed, 1 failed", CLASS, "AOwnTest", GOOD);
        answers(1, "1 passed, 1 failed", CLASS, "AShared", GOOD);
        Expect.finish();
    }

    /** A project of a class and of tests, each told by its name and what its main method does. */
    private static void answers(int code, String last, String source, String... tests)
            throws IOException, InterruptedException {
        try (Folder folder = new Folder()) {
            folder.copy(".ci/run", "main/.ci/run");
            folder.write("main/src/main/java/QuantityQuarry.java", source);
            for (int i = 0; i < tests.length; i += 2) {
                String own = tests[i].endsWith("OwnTest") ? "main/src/test/java/" : "shared/tests/";
                folder.write(own + tests[i] + ".java", "public final class " + tests[i] + " {\n"
                        + "public static void main(String[] args) {\nnew QuantityQuarry();\n"
                        + tests[i + 1].replace("NAME", tests[i]) + "\n}\n}\n");
            }
            Expect.same(code, folder.run("main/.ci/run"));
            Expect.same(true, folder.printed().endsWith("\n" + last + "\n"));
            for (int i = 0; i < tests.length; i += 2) {
                boolean isRun = tests[i + 1].equals(GOOD) && source.equals(CLASS);
                Expect.same(isRun, folder.printed().contains(tests[i] + " was run\n"));
            }
        }
    }
}
