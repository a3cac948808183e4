import java.io.IOException;
import java.lang.reflect.Field;
import java.lang.reflect.Member;
import java.lang.reflect.Method;
import java.lang.reflect.Modifier;
import java.nio.file.Files;
import java.nio.file.Path;
import java.util.Arrays;
import java.util.List;
import java.util.Set;
import java.util.TreeSet;
import java.util.regex.Matcher;
import java.util.regex.Pattern;
import java.util.stream.Collectors;

/** The class's face is the document's, and its source keeps to what can be seen of ../shared/LANGUAGE.md. */
public final class FaceTest {
    private static final Path SOURCE = Path.of("src/main/java/QuantityQuarry.java");
    private static final Path DOCUMENT = Path.of("../shared/DOC.md");

    public static void main(String[] args) throws IOException {
        faceIsThatOfTheDocument();
        membersAreHidden();
        sourceKeepsToTheRules(Files.readString(SOURCE));
        Expect.finish();
    }

    private static void faceIsThatOfTheDocument() throws IOException {
        Set<String> due = new TreeSet<>();
        Matcher lines = Pattern.compile("^    public (?!QuantityQuarry\\()(.*);$", Pattern.MULTILINE)
                .matcher(Files.readString(DOCUMENT));
        while (lines.find()) {
            String types = lines.group(1).replaceAll("(int|char|boolean) \\w+(?=[,)])", "$1");
            due.add(types);
        }
        Set<String> got = new TreeSet<>();
        for (Method method : QuantityQuarry.class.getDeclaredMethods()) {
            if (Modifier.isPublic(method.getModifiers())) {
                got.add(told(method));
            }
        }
        Expect.same(39, due.size());
        Expect.same(due, got);
        Expect.same(1, QuantityQuarry.class.getConstructors().length);
        Expect.same(Modifier.PUBLIC | Modifier.FINAL, QuantityQuarry.class.getModifiers());
    }

    private static String told(Method method) {
        String parameters = Arrays.stream(method.getParameterTypes()).map(Class::getName)
                .collect(Collectors.joining(", "));
        String exceptions = Arrays.stream(method.getExceptionTypes()).map(Class::getSimpleName)
                .collect(Collectors.joining(", "));
        return method.getReturnType().getName() + " " + method.getName() + "(" + parameters + ")"
                + (exceptions.isEmpty() ? "" : " throws " + exceptions);
    }

    private static void membersAreHidden() {
        Set<String> face = new TreeSet<>();
        for (Method method : QuantityQuarry.class.getDeclaredMethods()) {
            if (Modifier.isPublic(method.getModifiers())) {
                face.add(method.getName());
            } else {
                Expect.same(true, Modifier.isPrivate(method.getModifiers()));
            }
        }
        Class<?>[] inside = QuantityQuarry.class.getDeclaredClasses();
        Expect.same(true, inside.length <= 12);
        for (Class<?> owner : inside) {
            Expect.same(true, Modifier.isStatic(owner.getModifiers()));
            hiddenNames(owner.getDeclaredMethods(), face);
        }
        hiddenNames(Arrays.stream(QuantityQuarry.class.getDeclaredMethods())
                .filter(method -> Modifier.isPrivate(method.getModifiers())).toArray(Member[]::new), face);
        for (Field field : QuantityQuarry.class.getDeclaredFields()) {
            Expect.same(true, Modifier.isPrivate(field.getModifiers()));
            Expect.same(true, !Modifier.isStatic(field.getModifiers()) || Modifier.isFinal(field.getModifiers()));
        }
    }

    private static void hiddenNames(Member[] members, Set<String> face) {
        for (Member member : members) {
            Expect.same(false, face.contains(member.getName()));
        }
    }

    private static void sourceKeepsToTheRules(String source) {
        List<String> imports = source.lines().filter(line -> line.startsWith("import ")).toList();
        Expect.same(List.of("import java.util.Arrays;", "import java.util.NoSuchElementException;"), imports);
        String code = source.replaceAll("/\\*(?s:.*?)\\*/|//.*|\"[^\"]*\"", "");
        for (String word : new String[] {"->", "::", "try", "catch", "finally", "synchronized", "assert",
            "Exact", "Random", "Thread", "nanoTime", "hashCode", "package "}) {
            Expect.same(word + " " + false, word + " " + Pattern.compile("(?<!\\w)" + word).matcher(code).find());
        }
        int lines = 0;
        for (String line : source.lines().toList()) {
            lines = line.matches("(    |        )\\w.*\\{") ? 1 : lines + 1;
            if (line.matches("(    |        )}")) {
                Expect.same(true, lines <= 60 || line.equals("    }"));
            }
            Expect.same(true, line.length() <= 120);
            Expect.same(true, line.chars().allMatch(sign -> sign < 127));
        }
    }
}
