import java.io.IOException;
import java.lang.reflect.Constructor;
import java.lang.reflect.Field;
import java.lang.reflect.Method;
import java.lang.reflect.Modifier;
import java.nio.file.Files;
import java.nio.file.Path;
import java.util.ArrayList;
import java.util.List;
import java.util.TreeSet;
import java.util.regex.Matcher;
import java.util.regex.Pattern;

/** The public face, and the rules of LANGUAGE.md as far as they can be seen from outside or from the text. */
public final class FaceTest {
  private static final Path SOURCE = Path.of("src/main/java/InTheOldOne.java");
  private static final String FACE = """
      int set(int,int,int)
      int disk(int,int)
      int told(int,int)
      int file(int,int,int)
      int feed(int)
      int text()
      int force(int)
      int write(int,int,int)
      int lose(int,int)
      int copies(int,int)
      int on(int)
      int newest(int,int)
      int all(int)
      int best(int,int)
      int fewest(int)
      int worst(int)
      int letGo()
      int again(int,int)
      int goes(int)
      int plan(int,int)
      int tells(int,int,int,int)
      int film(int,int)
      int lot(int)
      long chance(int,int,int)
      int image()
      int back()
      int count(int)
      int sheet(int,int,int)
      int cell(int,int,int)
      int copy(int,int,int,int,int)
      int disks(int,int,int,int)
      int taken(int,int)
      """;

  public static void main(String[] args) throws IOException {
    Due.due("NONE", InTheOldOne.NONE, -1);
    Due.due("BAD", InTheOldOne.BAD, -2);
    Due.due("STATE", InTheOldOne.STATE, -3);
    Due.due("FULL", InTheOldOne.FULL, -4);
    Due.due("NO", InTheOldOne.NO, -4611686018427387904L);
    methods();
    fieldsAndClasses();
    source(withoutComments(Files.readString(SOURCE)));
    Due.end();
  }

  private static void none(String what, List<String> found) {
    Due.due(what + " " + found, found.size(), 0);
  }

  private static void methods() {
    TreeSet<String> due = new TreeSet<>(List.of(FACE.strip().split("\n")));
    TreeSet<String> publicOnes = new TreeSet<>();
    TreeSet<String> publicNames = new TreeSet<>();
    List<String> shown = new ArrayList<>();
    for (Method m : InTheOldOne.class.getDeclaredMethods()) {
      if (Modifier.isPublic(m.getModifiers())) {
        publicOnes.add(signature(m));
        publicNames.add(m.getName());
      } else if (!Modifier.isPrivate(m.getModifiers())) {
        shown.add(m.getName());
      }
    }
    Due.due("the public methods " + publicOnes, publicOnes.equals(due) ? 1 : 0, 1);
    none("neither public nor private", shown);
    List<String> twice = new ArrayList<>();
    List<String> long7 = new ArrayList<>();
    for (Class<?> c : classes()) {
      for (Method m : c.getDeclaredMethods()) {
        if (!Modifier.isPublic(m.getModifiers()) && publicNames.contains(m.getName())) twice.add(m.getName());
        if (m.getParameterCount() > 7) long7.add(m.getName());
      }
    }
    none("of a public one's name", twice);
    none("of more than seven parameters", long7);
  }

  private static String signature(Method m) {
    StringBuilder s = new StringBuilder(m.getReturnType() + " " + m.getName() + "(");
    for (Class<?> p : m.getParameterTypes()) s.append(s.charAt(s.length() - 1) == '(' ? "" : ",").append(p);
    return s.append(")").toString();
  }

  private static List<Class<?>> classes() {
    List<Class<?>> all = new ArrayList<>(List.of(InTheOldOne.class.getDeclaredClasses()));
    all.add(InTheOldOne.class);
    return all;
  }

  private static void fieldsAndClasses() {
    Due.due("public and final", InTheOldOne.class.getModifiers(), Modifier.PUBLIC | Modifier.FINAL);
    Constructor<?>[] made = InTheOldOne.class.getDeclaredConstructors();
    Due.due("constructors", made.length, 1);
    Due.due("its parameters", made[0].getParameterCount(), 0);
    Due.due("it is public", made[0].getModifiers(), Modifier.PUBLIC);
    List<String> shown = new ArrayList<>();
    List<String> notFinal = new ArrayList<>();
    List<String> notStatic = new ArrayList<>();
    List<String> many = new ArrayList<>();
    for (Class<?> c : classes()) {
      int own = 0;
      for (Field f : c.getDeclaredFields()) {
        boolean isStatic = Modifier.isStatic(f.getModifiers());
        if (isStatic && !Modifier.isFinal(f.getModifiers())) notFinal.add(f.getName());
        if (!isStatic) own++;
        boolean face = List.of("NONE", "BAD", "STATE", "FULL", "NO").contains(f.getName());
        if (c == InTheOldOne.class && face != Modifier.isPublic(f.getModifiers())) shown.add(f.getName());
        if (c == InTheOldOne.class && !face && !Modifier.isPrivate(f.getModifiers())) shown.add(f.getName());
      }
      if (own > 20) many.add(c.getName());
      if (c != InTheOldOne.class && !Modifier.isStatic(c.getModifiers())) notStatic.add(c.getName());
      if (c.getDeclaredClasses().length > 0 && c != InTheOldOne.class) notStatic.add(c.getName() + " holds classes");
    }
    none("shown, or hidden", shown);
    none("static, but not final", notFinal);
    none("not static", notStatic);
    none("of more than twenty fields", many);
    Due.due("at most 12 classes", classes().size() <= 12 ? 1 : 0, 1);
  }

  private static String withoutComments(String text) {
    return text.replaceAll("(?s)/\\*.*?\\*/", " ").replaceAll("//[^\n]*", " ");
  }

  private static void source(String text) {
    none("words", all(text, "\\b(throw|throws|try|catch|synchronized|assert|package|native|volatile|transient|Object|Thread|Random)\\b"));
    none("static initialiser blocks", all(text, "\\bstatic\\s*\\{"));
    none("method references, parameters without a number", all(text, "::|\\.\\.\\."));
    none("lambdas", all(text, "(?m)^(?!\\s*(case\\b|default\\b)).*->.*"));
    none("imports", all(text, "(?m)^import (?!java\\.util\\.(Arrays|ArrayList|List|Iterator);)[^\n]*"));
    none("of System", all(text, "System\\.(?!arraycopy\\b)\\w+"));
    none("of Arrays", all(text, "Arrays\\.(?!(fill|copyOf|copyOfRange)\\b|;)\\w+"));
    none("of Math, Integer, Long", all(text, "\\b(Math|Integer|Long)\\.(?!(min|max|abs|compare|sum|signum|bitCount|floorDiv|floorMod|"
        + "rotateLeft|rotateRight|numberOfTrailingZeros|numberOfLeadingZeros|MIN_VALUE|MAX_VALUE)\\b)\\w+"));
    none("joined by +", all(text, "\"\\s*\\+|\\+\\s*\""));
    none("signs beyond 127", all(text, "[^\\x00-\\x7f]"));
    none("methods of more than sixty lines", longMethods(text));
  }

  private static List<String> all(String text, String pattern) {
    List<String> found = new ArrayList<>();
    Matcher m = Pattern.compile(pattern).matcher(text);
    while (m.find()) found.add(m.group());
    return found;
  }

  /** A method's body begins with a ") {" at a depth of one or two braces, and ends where that depth is again. */
  private static List<String> longMethods(String text) {
    List<String> found = new ArrayList<>();
    String[] lines = text.split("\n");
    for (int i = 0; i < lines.length; i++) {
      if (!lines[i].matches("( {4}| {8})(public |private |static |boolean |int |long |void |[A-Z]\\w* ).*\\) \\{")) continue;
      String end = lines[i].substring(0, lines[i].length() - lines[i].stripLeading().length()) + "}";
      int j = i;
      while (j < lines.length && !lines[j].equals(end)) j++;
      if (j - i > 60) found.add(lines[i].strip());
    }
    return found;
  }
}
