import java.lang.reflect.Constructor;
import java.lang.reflect.Field;
import java.lang.reflect.Method;
import java.lang.reflect.Modifier;
import java.util.Arrays;
import java.util.List;
import java.util.Set;
import java.util.TreeSet;
import java.util.stream.Collectors;

/** The class shows the document's face and nothing else. */
final class FaceTest {
    private static final String I = "IndexOutOfBoundsException";
    private static final String A = "IllegalArgumentException";
    private static final String U = "UnsupportedOperationException";
    private static final String S = "IllegalStateException";
    private static final String N = "NoSuchElementException";
    private static final String R = "ArithmeticException";

    private static final List<String> FACE = List.of(
        "int door(int,int,int,int,int,int) " + I + " " + A + " " + U + " " + S,
        "int putItem(int,int) " + I + " " + A + " " + U,
        "int setRate(int,int) " + I + " " + A + " " + U,
        "int itemIn(int) " + I,
        "int shuffle(int) " + U,
        "int spheres()",
        "int sphereOf(int) " + A + " " + N,
        "int input(int) " + I + " " + S,
        "int pause(int) " + A + " " + S,
        "int erase()",
        "char play()",
        "int desync() " + N,
        "int ends()",
        "int had()",
        "long ticks(char) " + A,
        "int category() " + S,
        "int rule(int,int,int,int,char) " + I + " " + A + " " + U,
        "char judge(int) " + I,
        "int split(int,int) " + I + " " + S,
        "long gold(int,int) " + I + " " + N,
        "long best(int) " + I + " " + N,
        "long route(int) " + I + " " + N,
        "int routeAt(int,int) " + I + " " + A + " " + N,
        "boolean isShortest(int) " + I,
        "int submit(int,int) " + I + " " + U + " " + S,
        "char verify(int,int) " + I + " " + U,
        "boolean reject(int,int) " + I + " " + U,
        "char stateOf(int) " + I,
        "int ban(int) " + I + " " + U,
        "int merge(int,int) " + I + " " + A + " " + U,
        "int nextDay(int) " + A,
        "int ranked(int,int,boolean) " + I + " " + A,
        "long timeOf(int,char) " + I + " " + A,
        "int recordOn(int,int) " + I + " " + A + " " + N,
        "int stood(int,int) " + I,
        "int runs()",
        "float verifiedShare() " + R,
        "double meanTime(int) " + I + " " + R,
        "boolean isSound()");

    private static String told(Method m) {
        String types = Arrays.stream(m.getParameterTypes()).map(Class::getSimpleName).collect(Collectors.joining(","));
        String thrown = Arrays.stream(m.getExceptionTypes()).map(c -> " " + c.getSimpleName()).collect(Collectors.joining());
        return m.getReturnType().getSimpleName() + " " + m.getName() + "(" + types + ")" + thrown;
    }

    public static void main(String[] args) {
        Class<?> face = Speedrunnery.class;
        Set<String> names = FACE.stream().map(f -> f.split("[ (]")[1]).collect(Collectors.toSet());
        Set<String> seen = new TreeSet<>();
        for (Method m : face.getDeclaredMethods()) {
            if (Modifier.isPrivate(m.getModifiers())) {
                Check.is("private " + m.getName() + " bears a public name", false, () -> names.contains(m.getName()));
            } else {
                seen.add(told(m));
                Check.is(m.getName() + " is public", Modifier.PUBLIC, m::getModifiers);
            }
        }
        Check.is("the methods", new TreeSet<>(FACE), () -> seen);
        Check.is("the class", Modifier.PUBLIC | Modifier.FINAL, face::getModifiers);
        Constructor<?>[] made = face.getDeclaredConstructors();
        Check.is("one constructor", 1, () -> made.length);
        Check.is("the constructor", Modifier.PUBLIC, made[0]::getModifiers);
        for (Field f : face.getDeclaredFields()) {
            Check.is(f.getName() + " is private", true, () -> Modifier.isPrivate(f.getModifiers()));
            Check.is(f.getName() + " is final if static", true,
                () -> !Modifier.isStatic(f.getModifiers()) || Modifier.isFinal(f.getModifiers()));
        }
        for (Class<?> inner : face.getDeclaredClasses()) {
            Check.is(inner.getName() + " is static", true, () -> Modifier.isStatic(inner.getModifiers()));
        }
        Check.end();
    }
}
