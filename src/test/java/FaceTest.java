import java.lang.reflect.Constructor;
import java.lang.reflect.Field;
import java.lang.reflect.Method;
import java.lang.reflect.Modifier;
import java.util.Arrays;
import java.util.stream.Collectors;

/** The public face of the document, and that nothing but it can be seen from outside. */
public final class FaceTest {
  private static final String[] METHODS = {
    "int set(int, int) IndexOutOfBoundsException IllegalArgumentException",
    "int setting(int) IndexOutOfBoundsException",
    "int setPoint(int, int) IllegalArgumentException IllegalStateException",
    "int removePoint(int) NoSuchElementException",
    "int point(int, int) NoSuchElementException IllegalArgumentException",
    "int table(int) IllegalArgumentException",
    "int setWeight(int, int) IndexOutOfBoundsException IllegalArgumentException",
    "int setGrid(int, int, int, int) IndexOutOfBoundsException IllegalArgumentException",
    "int append(int) IllegalArgumentException IllegalStateException",
    "int load() IllegalArgumentException",
    "int errorPosition()",
    "int describe(int) IndexOutOfBoundsException",
    "int curvature(int) IndexOutOfBoundsException",
    "int push(int) IndexOutOfBoundsException",
    "int run()",
    "int trace(int, int) IllegalStateException IndexOutOfBoundsException IllegalArgumentException",
    "int measure(int) IllegalStateException IllegalArgumentException",
    "long cost() IllegalStateException",
    "int reason(int) IllegalStateException IndexOutOfBoundsException",
    "long meanSquareBits() IllegalStateException",
    "int saturatedBits() IllegalStateException",
    "int hold() IllegalStateException",
    "int compare(int) IllegalStateException IllegalArgumentException",
    "int search()",
    "int climb()",
    "int found(boolean, int) IllegalStateException IllegalArgumentException",
    "long foundCost(boolean) IllegalStateException",
    "int apply(boolean) IllegalStateException",
    "int lowest(int, long) IndexOutOfBoundsException NoSuchElementException",
    "int count(int) IllegalArgumentException",
    "int undo() IllegalStateException",
    "int save()",
    "int restore() IllegalStateException"};

  public static void main(String[] args) {
    Due due = new Due("FaceTest");
    Class<?> face = LineFollowerBench.class;
    due.compare("class", "public final", Modifier.toString(face.getModifiers()));
    due.compare("package", "", face.getPackageName());
    String wanted = Arrays.stream(METHODS).sorted().collect(Collectors.joining("\n"));
    String got = Arrays.stream(face.getDeclaredMethods())
        .filter(method -> !Modifier.isPrivate(method.getModifiers()) && !method.isSynthetic())
        .map(FaceTest::described).sorted().collect(Collectors.joining("\n"));
    due.compare("methods", wanted, got);
    for (Constructor<?> constructor : face.getDeclaredConstructors()) {
      due.compare("constructor", "public LineFollowerBench()", constructor.toString());
    }
    for (Field field : face.getDeclaredFields()) {
      due.compare("field " + field.getName(), "true", "" + Modifier.isPrivate(field.getModifiers()));
      boolean isChangeable = Modifier.isStatic(field.getModifiers()) && !Modifier.isFinal(field.getModifiers());
      due.compare("static field " + field.getName(), "false", "" + isChangeable);
    }
    for (Class<?> inside : face.getDeclaredClasses()) {
      due.compare("class " + inside.getName(), "private static final", Modifier.toString(inside.getModifiers()));
    }
    due.end();
  }

  private static String described(Method method) {
    String arguments = Arrays.stream(method.getParameterTypes()).map(Class::getName)
        .collect(Collectors.joining(", "));
    String exceptions = Arrays.stream(method.getExceptionTypes()).map(type -> " " + type.getSimpleName())
        .collect(Collectors.joining());
    return method.getReturnType().getName() + " " + method.getName() + "(" + arguments + ")" + exceptions;
  }
}
