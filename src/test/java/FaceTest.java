import java.io.IOException;
import java.lang.reflect.Field;
import java.lang.reflect.Member;
import java.lang.reflect.Method;
import java.lang.reflect.Modifier;
import java.nio.file.Files;
import java.nio.file.Path;
import java.util.Arrays;
import java.util.Set;
import java.util.TreeSet;
import java.util.regex.Matcher;
import java.util.regex.Pattern;
import java.util.stream.Collectors;

/** The class's face is the document's, and nothing else of it can be called. */
public final class FaceTest {
    private static final Path DOCUMENT = Path.of("../shared/DOC.md");

    public static void main(String[] args) throws IOException {
        faceIsThatOfTheDocument();
        membersAreHidden();
        Expect.finish();
    }

    private static void faceIsThatOfTheDocument() throws IOException {
        Set<String> due = new TreeSet<>();
        Matcher lines = Pattern.compile("^    public (?!QuantityQuarry\\()(.*);$", Pattern.MULTILINE)
                .matcher(Files.readString(DOCUMENT));
        while (lines.find()) {
            String types = lines.group(1).replaceAll("(int|char|boolean) \\w+(?=[,)])", "$1");
            due.add(types);
        }
        Set<String> got = new TreeSet<>();
        for (Method method : QuantityQuarry.class.getDeclaredMethods()) {
            if (Modifier.isPublic(method.getModifiers())) {
                got.add(told(method));
            }
        }
        Expect.same(39, due.size());
        Expect.same(due, got);
        Expect.same(1, QuantityQuarry.class.getConstructors().length);
        Expect.same(Modifier.PUBLIC | Modifier.FINAL, QuantityQuarry.class.getModifiers());
    }

    private static String told(Method method) {
        String parameters = Arrays.stream(method.getParameterTypes()).map(Class::getName)
                .collect(Collectors.joining(", "));
        String exceptions = Arrays.stream(method.getExceptionTypes()).map(Class::getSimpleName)
                .collect(Collectors.joining(", "));
        return method.getReturnType().getName() + " " + method.getName() + "(" + parameters + ")"
                + (exceptions.isEmpty() ? "" : " throws " + exceptions);
    }

    private static void membersAreHidden() {
        Set<String> face = new TreeSet<>();
        for (Method method : QuantityQuarry.class.getDeclaredMethods()) {
            if (Modifier.isPublic(method.getModifiers())) {
                face.add(method.getName());
            } else {
                Expect.same(true, Modifier.isPrivate(method.getModifiers()));
            }
        }
        Class<?>[] inside = QuantityQuarry.class.getDeclaredClasses();
        Expect.same(true, inside.length <= 12);
        for (Class<?> owner : inside) {
            Expect.same(true, Modifier.isStatic(owner.getModifiers()));
            hiddenNames(owner.getDeclaredMethods(), face);
        }
        hiddenNames(Arrays.stream(QuantityQuarry.class.getDeclaredMethods())
                .filter(method -> Modifier.isPrivate(method.getModifiers())).toArray(Member[]::new), face);
        for (Field field : QuantityQuarry.class.getDeclaredFields()) {
            Expect.same(true, Modifier.isPrivate(field.getModifiers()));
            Expect.same(true, !Modifier.isStatic(field.getModifiers()) || Modifier.isFinal(field.getModifiers()));
        }
    }

    private static void hiddenNames(Member[] members, Set<String> face) {
        for (Member member : members) {
            Expect.same(false, face.contains(member.getName()));
        }
    }
}
