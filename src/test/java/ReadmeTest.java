import java.io.IOException;
import java.lang.reflect.InvocationTargetException;
import java.lang.reflect.Method;
import java.lang.reflect.Modifier;
import java.nio.file.Files;
import java.nio.file.Path;
import java.util.Arrays;
import java.util.Set;
import java.util.TreeSet;
import java.util.regex.Matcher;
import java.util.regex.Pattern;

/** The calls that README.md shows, on one object, answer what README.md says of them; it shows every method. */
public final class ReadmeTest extends Answers {
    private static final Pattern CALL = Pattern.compile("layout\\.(\\w+)\\(([-0-9, ]*)\\);( +// (.*))?");
    private static final String REFUSED = "refused";

    private static int[] numbers(String text) {
        return Arrays.stream(text.split(",")).map(String::trim).mapToInt(Integer::parseInt).toArray();
    }

    private static Method method(String name, int parameters) throws NoSuchMethodException {
        Class<?>[] types = new Class<?>[parameters];
        Arrays.fill(types, int.class);
        return RouteLayout.class.getMethod(name, types);
    }

    private static String answer(RouteLayout layout, Method method, int[] numbers) throws IllegalAccessException {
        try {
            Object[] arguments = Arrays.stream(numbers).boxed().toArray();
            return String.valueOf(method.invoke(layout, arguments));
        } catch (InvocationTargetException e) {
            return e.getCause() instanceof IllegalArgumentException ? REFUSED : e.getCause().toString();
        }
    }

    /** Behind a call that answers nothing README.md may say anything, but for calls that are refused. */
    private static String said(Method method, String remark) {
        String first = remark == null ? "no answer" : remark.split(":")[0];
        boolean isSilent = method.getReturnType() == void.class && !first.equals(REFUSED);
        return isSilent ? "null" : first;
    }

    private static Set<String> faceNames() {
        Set<String> names = new TreeSet<>();
        for (Method one : RouteLayout.class.getDeclaredMethods()) {
            if (Modifier.isPublic(one.getModifiers())) {
                names.add(one.getName());
            }
        }
        return names;
    }

    public static void main(String[] args) throws IOException, ReflectiveOperationException {
        by("README.md");
        RouteLayout layout = new RouteLayout();
        Set<String> shown = new TreeSet<>();
        for (String line : Files.readAllLines(Path.of("README.md"))) {
            Matcher call = CALL.matcher(line);
            if (call.matches()) {
                int[] numbers = numbers(call.group(2));
                Method method = method(call.group(1), numbers.length);
                due(line, answer(layout, method, numbers), said(method, call.group(4)));
                shown.add(call.group(1));
            } else {
                due("a line of README.md that begins with layout.", line.startsWith("layout."), false);
            }
        }
        due("the methods that README.md shows", shown.toString(), faceNames().toString());
        end();
    }
}
