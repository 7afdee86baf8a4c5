import java.io.DataInputStream;
import java.io.IOException;
import java.io.InputStream;
import java.lang.management.ManagementFactory;
import java.lang.reflect.Constructor;
import java.lang.reflect.Field;
import java.lang.reflect.Method;
import java.lang.reflect.Modifier;
import java.nio.file.Files;
import java.nio.file.Path;
import java.util.ArrayList;
import java.util.Arrays;
import java.util.List;
import java.util.Set;
import java.util.TreeSet;
import java.util.regex.Pattern;

/** The face of the document, the rules of LANGUAGE.md that a class file shows, and the room that calls take. */
final class RulesTest {
  private static final String[] FACE = {
    "int index(int) IllegalArgumentException",
    "int coset(int,int,int) IllegalArgumentException UnsupportedOperationException",
    "int cusps(int) IllegalArgumentException",
    "int width(int,int) IllegalArgumentException IndexOutOfBoundsException",
    "int genus(int) IllegalArgumentException",
    "int genusAnew(int) IllegalArgumentException",
    "int steps(int,int) IllegalArgumentException",
    "int step(int,int,int,int) IllegalArgumentException IndexOutOfBoundsException",
    "int eisenstein(int) IllegalArgumentException IllegalStateException",
    "int discriminant() IllegalStateException",
    "int factor(int,int) IllegalArgumentException UnsupportedOperationException IllegalStateException",
    "boolean isWhole()",
    "int eta() UnsupportedOperationException IllegalStateException",
    "int product(int,int) IndexOutOfBoundsException UnsupportedOperationException IllegalStateException",
    "int sum(int,int,int) IndexOutOfBoundsException UnsupportedOperationException IllegalStateException",
    "int raise(int,int) IndexOutOfBoundsException IllegalArgumentException UnsupportedOperationException"
        + " IllegalStateException",
    "int operator(int,int) IndexOutOfBoundsException IllegalArgumentException UnsupportedOperationException"
        + " IllegalStateException",
    "int weight(int) IndexOutOfBoundsException",
    "int level(int) IndexOutOfBoundsException",
    "int precision(int) IndexOutOfBoundsException",
    "long coefficient(int,int) IndexOutOfBoundsException NoSuchElementException",
    "int bound(int,int) IndexOutOfBoundsException UnsupportedOperationException",
    "boolean isEqual(int,int) IndexOutOfBoundsException UnsupportedOperationException",
    "boolean isCongruent(int,int,int) IndexOutOfBoundsException IllegalArgumentException"
        + " UnsupportedOperationException",
    "int forms(int) IllegalArgumentException",
    "int formAt(int,int,char) IllegalArgumentException IndexOutOfBoundsException",
    "int theta(int,int) IllegalArgumentException IndexOutOfBoundsException UnsupportedOperationException"
        + " IllegalStateException",
    "int weighed(int) IllegalArgumentException",
    "long trace(int,int) IllegalArgumentException",
    "long traceAnew(int,int) IllegalArgumentException",
    "int curve(int,int,int,int,int) IllegalArgumentException IllegalStateException",
    "int points(int,int) IndexOutOfBoundsException IllegalArgumentException",
    "boolean isGood(int,int) IndexOutOfBoundsException IllegalArgumentException",
    "int parts(int,int) IndexOutOfBoundsException",
    "int series()",
    "long allCoefficients()",
    "float toldShare() ArithmeticException",
    "double meanWidth(int) IllegalArgumentException",
    "long widthBits(int) IllegalArgumentException",
    "int toldBits()",
    "boolean isSound()"
  };

  private static final Set<String> LIBRARY = Set.of(
      "java/lang/Object.<init>()V", "java/lang/Math.floorMod(II)I", "java/lang/Math.floorMod(JJ)J",
      "java/lang/Math.floorDiv(II)I", "java/lang/Math.min(II)I", "java/util/Arrays.fill([JJ)V",
      "java/util/Arrays.fill([II)V", "java/lang/IllegalArgumentException.<init>(Ljava/lang/String;)V",
      "java/lang/IllegalStateException.<init>(Ljava/lang/String;)V",
      "java/lang/IndexOutOfBoundsException.<init>(Ljava/lang/String;)V",
      "java/lang/ArithmeticException.<init>(Ljava/lang/String;)V",
      "java/lang/UnsupportedOperationException.<init>(Ljava/lang/String;)V",
      "java/util/NoSuchElementException.<init>(Ljava/lang/String;)V");

  private static final Pattern NOT_THERE = Pattern.compile(
      "\\b(catch|try|finally|assert|synchronized|volatile|native|var|record|package|protected)\\b|->|::|@|\\$");
  private static final Pattern METHOD =
      Pattern.compile("  (  )?(public |private |static |void |int |long |boolean |double )[^=;]*\\([^=;]*");

  private static final Checks checks = new Checks();

  public static void main(String[] args) throws IOException {
    face();
    members();
    library();
    source();
    room();
    checks.finish();
  }

  private static String described(Method method) {
    StringBuilder text = new StringBuilder(method.getReturnType().getName());
    List<String> types = new ArrayList<>();
    for (Class<?> type : method.getParameterTypes()) {
      types.add(type.getName());
    }
    text.append(' ').append(method.getName()).append('(').append(String.join(",", types)).append(')');
    for (Class<?> thrown : method.getExceptionTypes()) {
      text.append(' ').append(thrown.getSimpleName());
    }
    return text.toString();
  }

  private static void face() {
    checks.same("the face: the class", Modifier.toString(Heckeworks.class.getModifiers()), "public final");
    Constructor<?>[] constructors = Heckeworks.class.getDeclaredConstructors();
    checks.same("promise 1: one constructor", constructors.length, 1);
    checks.same("promise 1: without arguments", constructors[0].toGenericString(), "public Heckeworks()");
    Set<String> got = new TreeSet<>();
    for (Method method : Heckeworks.class.getDeclaredMethods()) {
      if (!Modifier.isPrivate(method.getModifiers())) {
        checks.same("the face: " + method.getName(), Modifier.toString(method.getModifiers()), "public");
        got.add(described(method));
      }
    }
    checks.same("the face: all methods", got, new TreeSet<>(Arrays.asList(FACE)));
    for (Field field : Heckeworks.class.getDeclaredFields()) {
      checks.same("rule 1: " + field.getName(), Modifier.isPrivate(field.getModifiers()), true);
    }
  }

  private static List<Class<?>> classes() {
    List<Class<?>> all = new ArrayList<>(Arrays.asList(Heckeworks.class.getDeclaredClasses()));
    all.add(Heckeworks.class);
    return all;
  }

  private static void members() {
    Set<String> names = new TreeSet<>();
    for (String line : FACE) {
      names.add(line.substring(line.indexOf(' ') + 1, line.indexOf('(')));
    }
    checks.same("rule 11: at most 12 classes", classes().size() <= 12, true);
    for (Class<?> type : classes()) {
      boolean isFace = type == Heckeworks.class;
      checks.same("rule 1: " + type + " is static", isFace || Modifier.isStatic(type.getModifiers()), true);
      int fields = 0;
      for (Field field : type.getDeclaredFields()) {
        boolean isStatic = Modifier.isStatic(field.getModifiers());
        checks.same("rule 5: " + field, !isStatic || Modifier.isFinal(field.getModifiers()), true);
        fields += isStatic ? 0 : 1;
      }
      checks.same("rule 11: fields of " + type, fields <= 20, true);
      for (Method method : type.getDeclaredMethods()) {
        boolean isOfFace = isFace && Modifier.isPublic(method.getModifiers());
        checks.same("rule 1: the name of " + method, isOfFace || !names.contains(method.getName()), true);
        checks.same("rule 11: " + method, method.getParameterCount() <= 7, true);
      }
    }
  }

  private static void library() throws IOException {
    for (Class<?> type : classes()) {
      String file = "/" + type.getName() + ".class";
      try (InputStream bytes = RulesTest.class.getResourceAsStream(file)) {
        for (String used : usedMethods(new DataInputStream(bytes))) {
          checks.same("rule 4: " + used, used.startsWith("Heckeworks") || LIBRARY.contains(used), true);
        }
      }
    }
  }

  /** All methods that a class file names, as owner, name and types; a call made at run time is told as such. */
  private static List<String> usedMethods(DataInputStream bytes) throws IOException {
    bytes.readInt();
    bytes.readInt();
    int count = bytes.readUnsignedShort();
    Object[] pool = new Object[count];
    int[] tags = new int[count];
    for (int i = 1; i < count; i++) {
      tags[i] = bytes.readUnsignedByte();
      pool[i] = entry(bytes, tags[i]);
      i += tags[i] == 5 || tags[i] == 6 ? 1 : 0;
    }
    List<String> found = new ArrayList<>();
    for (int i = 1; i < count; i++) {
      if (tags[i] == 10 || tags[i] == 11) {
        int[] method = (int[]) pool[i];
        int[] name = (int[]) pool[method[1]];
        found.add(pool[((int[]) pool[method[0]])[0]] + "." + pool[name[0]] + pool[name[1]]);
      } else if (tags[i] >= 15 && tags[i] <= 18) {
        found.add("a call made at run time");
      }
    }
    return found;
  }

  private static Object entry(DataInputStream bytes, int tag) throws IOException {
    switch (tag) {
      case 1:
        return bytes.readUTF();
      case 3: case 4:
        return bytes.readInt();
      case 5: case 6:
        return bytes.readLong();
      case 7: case 8: case 16: case 19: case 20:
        return new int[] {bytes.readUnsignedShort()};
      case 15:
        return new int[] {bytes.readUnsignedByte(), bytes.readUnsignedShort()};
      default:
        return new int[] {bytes.readUnsignedShort(), bytes.readUnsignedShort()};
    }
  }

  /** What a class file does not show; the tests are run from the project's first directory. */
  private static void source() throws IOException {
    List<String> lines = Files.readAllLines(Path.of("src/main/java/Heckeworks.java"));
    List<String> wrong = new ArrayList<>();
    int methods = 0;
    int start = 0;
    for (int i = 0; i < lines.size(); i++) {
      String line = lines.get(i);
      boolean isThrow = line.contains("throw ") && !line.matches(" *throw new [A-Za-z]+Exception\\(\"[^\"]*\"\\);");
      boolean isOdd = NOT_THERE.matcher(line).find() || !line.matches("[ -~]*");
      boolean isLong = line.matches("  (  )?\\}") && i - start >= 60 && start > 0;
      if (isThrow || isOdd || isLong) {
        wrong.add(i + 1 + ": " + line.trim());
      }
      if (METHOD.matcher(line).matches()) {
        start = i;
        methods++;
      }
    }
    checks.same("rules 2 to 6 and 11: lines that are not allowed", wrong, new ArrayList<>());
    checks.same("rule 11: methods are found in the source", methods > 100, true);
  }

  /** Calls make nothing: what an object needs is made with it. */
  private static void room() {
    com.sun.management.ThreadMXBean counter =
        (com.sun.management.ThreadMXBean) ManagementFactory.getThreadMXBean();
    long thread = Thread.currentThread().getId();
    dearCalls(new Heckeworks(), 1);
    long start = counter.getThreadAllocatedBytes(thread);
    Heckeworks mill = new Heckeworks();
    long made = counter.getThreadAllocatedBytes(thread);
    dearCalls(mill, 20);
    long end = counter.getThreadAllocatedBytes(thread);
    checks.same("the room of an object is " + (made - start) + " bytes", made - start < 60000, true);
    checks.same("the room of its calls is " + (end - made) + " bytes", end - made < 4000, true);
  }

  private static void dearCalls(Heckeworks mill, int times) {
    mill.curve(1, 2, 3, 4, 5);
    mill.factor(1, 24);
    mill.factor(30, -24);
    mill.factor(30, 24);
    mill.eta();
    mill.eisenstein(14);
    mill.theta(-60, 1);
    mill.operator(1, 2);
    mill.product(0, 1);
    mill.sum(0, 0, 3);
    mill.raise(1, 60 / 2);
    for (int i = 0; i < times; i++) {
      mill.genus(60 - i % 7);
      mill.step(60, 6765, 4181, 9);
      mill.coset(59, 7, 8);
      mill.isEqual(1, 1);
      mill.isCongruent(1, 1, 7);
      mill.forms(-399);
      mill.weighed(400);
      mill.trace(24, 20);
      mill.traceAnew(26, 20);
      mill.points(0, 97);
      mill.isGood(0, 97);
      mill.parts(0, 1);
      mill.allCoefficients();
      mill.toldBits();
      mill.widthBits(60);
      mill.isSound();
    }
  }
}
