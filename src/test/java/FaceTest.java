import java.lang.reflect.Constructor;
import java.lang.reflect.Field;
import java.lang.reflect.Method;
import java.lang.reflect.Modifier;
import java.util.Arrays;
import java.util.Set;
import java.util.TreeSet;

/** The class has the face of the document, and no other member that is not private but classes. */
public final class FaceTest {
    private static final String[] FACE = {
        "public RouteLayout()",
        "public boolean RouteLayout.draw(int) throws java.lang.IllegalArgumentException",
        "public boolean RouteLayout.drop(int) throws java.lang.IllegalArgumentException",
        "public boolean RouteLayout.remove(int) throws java.lang.IllegalArgumentException",
        "public int RouteLayout.at(int,int) throws java.lang.IllegalArgumentException",
        "public int RouteLayout.between(int,int) throws java.lang.IllegalArgumentException",
        "public int RouteLayout.count(int)",
        "public int RouteLayout.item(int,int)",
        "public int RouteLayout.piece(int,int,int) throws java.lang.IllegalArgumentException",
        "public int RouteLayout.redraw(int,int) throws java.lang.IllegalArgumentException",
        "public int RouteLayout.reversed(int) throws java.lang.IllegalArgumentException",
        "public void RouteLayout.arrow(int,int,int) throws java.lang.IllegalArgumentException",
        "public void RouteLayout.box(int,int) throws java.lang.IllegalArgumentException",
        "public void RouteLayout.pin(int,int) throws java.lang.IllegalArgumentException",
    };

    public static void main(String[] args) {
        Set<String> found = new TreeSet<>();
        for (Constructor<?> one : RouteLayout.class.getDeclaredConstructors()) {
            if (!Modifier.isPrivate(one.getModifiers())) {
                found.add(one.toString());
            }
        }
        for (Method one : RouteLayout.class.getDeclaredMethods()) {
            if (!Modifier.isPrivate(one.getModifiers())) {
                found.add(one.toString());
            }
        }
        for (Field one : RouteLayout.class.getDeclaredFields()) {
            if (!Modifier.isPrivate(one.getModifiers())) {
                found.add(one.toString());
            }
        }
        Set<String> due = new TreeSet<>(Arrays.asList(FACE));
        boolean isRight = found.equals(due) && RouteLayout.class.getModifiers() == (Modifier.PUBLIC | Modifier.FINAL);
        for (Class<?> one : RouteLayout.class.getDeclaredClasses()) {
            isRight = isRight && Modifier.isStatic(one.getModifiers());
        }
        System.out.println(isRight ? "the face is as due" : "the face is " + found + ", due is " + due);
        if (!isRight) {
            System.exit(1);
        }
    }
}
