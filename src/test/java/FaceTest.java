import java.io.IOException;
import java.lang.reflect.Constructor;
import java.lang.reflect.Executable;
import java.lang.reflect.Field;
import java.lang.reflect.Method;
import java.lang.reflect.Modifier;
import java.nio.file.Files;
import java.nio.file.Path;
import java.util.Arrays;
import java.util.HashSet;
import java.util.Set;
import java.util.TreeSet;
import java.util.regex.Matcher;
import java.util.regex.Pattern;
import java.util.stream.Collectors;

/** The face of the class is the one that the document prints, with what each call throws, and no more. */
public final class FaceTest {
    private static final Pattern CALL = Pattern.compile("    public (?:(\\w+) )?(\\w+)\\((.*?)\\)(?: throws (.*))?;");

    public static void main(String[] args) throws IOException {
        Check.due("the face", documented(), declared());
        Check.due("the class", Modifier.PUBLIC | Modifier.FINAL, Equaltexts.class.getModifiers());
        for (Field field : Equaltexts.class.getDeclaredFields()) {
            Check.due(field.getName() + " is private", true, Modifier.isPrivate(field.getModifiers()));
            Check.due(field.getName() + " is a constant if it is static", Modifier.isStatic(field.getModifiers()),
                Modifier.isStatic(field.getModifiers()) && Modifier.isFinal(field.getModifiers()));
        }
        Set<String> faced = new HashSet<>();
        for (Method method : Equaltexts.class.getDeclaredMethods()) {
            boolean isPublic = Modifier.isPublic(method.getModifiers());
            Check.due(method + " is public or private", true, isPublic || Modifier.isPrivate(method.getModifiers()));
            if (isPublic) {
                faced.add(method.getName());
            }
        }
        insideBearsNoNameOf(faced);
        Check.end("FaceTest");
    }

    private static void insideBearsNoNameOf(Set<String> faced) {
        for (Method method : Equaltexts.class.getDeclaredMethods()) {
            Check.due(method + " bears no public name", false,
                Modifier.isPrivate(method.getModifiers()) && faced.contains(method.getName()));
        }
        for (Class<?> inside : Equaltexts.class.getDeclaredClasses()) {
            Check.due(inside + " is static", true, Modifier.isStatic(inside.getModifiers()));
            Check.due(inside + " is not public", 0, inside.getModifiers() & (Modifier.PUBLIC | Modifier.PROTECTED));
            for (Method method : inside.getDeclaredMethods()) {
                Check.due(method + " bears no public name", false, faced.contains(method.getName()));
            }
        }
    }

    private static Set<String> documented() throws IOException {
        Set<String> calls = new TreeSet<>();
        boolean isFace = false;
        for (String line : Files.readAllLines(Path.of("../shared/DOC.md"))) {
            isFace = line.equals("public final class Equaltexts {") || isFace && !line.equals("}");
            Matcher call = CALL.matcher(line);
            if (isFace && call.matches()) {
                String types = Arrays.stream(call.group(3).split(", ")).map(one -> one.split(" ")[0])
                    .collect(Collectors.joining(", "));
                calls.add(call.group(1) + " " + call.group(2) + "(" + types + ") throws "
                    + (call.group(4) == null ? "" : call.group(4)));
            }
        }
        return calls;
    }

    private static Set<String> declared() {
        Set<String> calls = new TreeSet<>();
        for (Method method : Equaltexts.class.getDeclaredMethods()) {
            if (Modifier.isPublic(method.getModifiers())) {
                calls.add(method.getReturnType() + " " + written(method));
            }
        }
        for (Constructor<?> constructor : Equaltexts.class.getConstructors()) {
            calls.add("null " + written(constructor));
        }
        return calls;
    }

    private static String written(Executable call) {
        return call.getName() + "(" + simple(call.getParameterTypes()) + ") throws "
            + simple(call.getExceptionTypes());
    }

    private static String simple(Class<?>[] types) {
        return Arrays.stream(types).map(Class::getSimpleName).collect(Collectors.joining(", "));
    }
}
