import java.lang.reflect.Field;
import java.lang.reflect.Method;
import java.lang.reflect.Modifier;
import java.nio.file.Files;
import java.nio.file.Path;
import java.util.Arrays;
import java.util.TreeSet;
import java.util.regex.Matcher;
import java.util.regex.Pattern;

/** The public face of the document, and those rules of LANGUAGE.md that can be seen from outside or from the words of the file. */
public final class RuleTest {
  private static final String[] FACE = {"feed(int)", "street()", "fault()", "told(int)", "chalk(int,int)", "door(int,int)",
    "mark(int,int)", "wipe(int,int)", "hide(int,int,boolean)", "copy(int,int)", "night(int)", "like(int)",
    "fool(int,int,int)", "code(int,int)", "windows(int)", "leastWindow()", "belief(int,int,int)", "bestDoor(int,int)",
    "watchman(int)", "unseen(int)", "sight(int)", "forged(int,int)", "keys(int,int)", "note(int,int,boolean)",
    "first(int)", "write(int,int)", "tear()", "judge()", "seed(int)", "keep(int)", "goBack(int)"};
  private static final String[] CONSTANTS = {"NONE", "UNKNOWN", "OUTSIDE", "NOT", "FULL"};

  public static void main(String[] args) throws Exception {
    face();
    members(ChalkedDoors.class);
    for (Class<?> inner : ChalkedDoors.class.getDeclaredClasses()) {
      if (!Modifier.isStatic(inner.getModifiers())) Due.fail(inner + " is not static");
      members(inner);
      for (Method m : inner.getDeclaredMethods()) {
        if (isOfFace(m.getName())) Due.fail(m + " bears a public name");
      }
    }
    words();
    Due.end();
  }

  private static boolean isOfFace(String name) {
    return Arrays.stream(FACE).anyMatch(f -> f.startsWith(name + "("));
  }

  private static void face() {
    TreeSet<String> got = new TreeSet<>();
    for (Method m : ChalkedDoors.class.getDeclaredMethods()) {
      StringBuilder s = new StringBuilder(m.getName()).append('(');
      for (Class<?> p : m.getParameterTypes()) s.append(s.charAt(s.length() - 1) == '(' ? "" : ",").append(p.getName());
      if (Modifier.isPrivate(m.getModifiers())) {
        if (isOfFace(m.getName())) Due.fail(m + " bears a public name");
      } else if (!Modifier.isPublic(m.getModifiers()) || Modifier.isStatic(m.getModifiers()) || m.getReturnType() != int.class) {
        Due.fail(m + " is not of the face");
      } else {
        got.add(s.append(')').toString());
      }
    }
    if (!got.equals(new TreeSet<>(Arrays.asList(FACE)))) Due.fail("the face is " + got);
    if (!Modifier.isFinal(ChalkedDoors.class.getModifiers()) || !Modifier.isPublic(ChalkedDoors.class.getModifiers())) {
      Due.fail("the class is not public and final");
    }
  }

  private static void members(Class<?> type) {
    int held = 0;
    for (Method m : type.getDeclaredMethods()) {
      if (m.getParameterCount() > 7) Due.fail(m + " takes too many parameters");
    }
    for (Field f : type.getDeclaredFields()) {
      int m = f.getModifiers();
      held += Modifier.isStatic(m) ? 0 : 1;
      boolean ofFace = type == ChalkedDoors.class && Arrays.asList(CONSTANTS).contains(f.getName());
      if (ofFace != Modifier.isPublic(m) || !ofFace && !Modifier.isPrivate(m)) Due.fail(f + " has the wrong sight");
      if (Modifier.isStatic(m) && !Modifier.isFinal(m)) Due.fail(f + " is static and not final");
    }
    if (held > 20) Due.fail(type + " has too many fields");
  }

  /** A method's lines are those from its head to the brace that stands as far in as it. */
  private static void shortMethods(String source) {
    String[] lines = source.split("\n");
    for (int i = 0; i < lines.length; i++) {
      if (!lines[i].matches(" +(public|private)[^=;]*\\) \\{")) continue;
      String end = lines[i].replaceAll("\\S.*", "}");
      int length = 1;
      while (i + length < lines.length && !lines[i + length].equals(end)) length++;
      if (length >= 60) Due.fail("the method in line " + (i + 1) + " is too long");
    }
  }

  /** Rule 4 lists functions of the library and none of its constants: Integer.MAX_VALUE is no function. */
  private static void library(String code) {
    Matcher used = Pattern.compile("\\b(Integer|Long|Math|Arrays|System|String|Character|Boolean|Double|Float|Short|Byte)\\s*\\.\\s*\\w+\\s*\\(?").matcher(code);
    String listed = "(Integer|Long|Math)\\.(abs|max|min|compare|bitCount|floorDiv|floorMod)\\(|Arrays\\.(fill|copyOf|copyOfRange)\\(|System\\.arraycopy\\(";
    while (used.find()) {
      if (!used.group().matches(listed)) Due.fail("the library's " + used.group() + " is not listed");
    }
  }

  private static void words() throws Exception {
    String source = Files.readString(Path.of("src/main/java/ChalkedDoors.java"));
    String code = source.replaceAll("(?s)/\\*.*?\\*/", "").replaceAll("//[^\n]*", "");
    Matcher bad = Pattern.compile("\\b(throw|throws|try|catch|finally|synchronized|assert|package|protected|volatile|native|"
      + "System\\.(?!arraycopy)\\w+|Object|Map|Set|Random|Thread|Exact|default\\s*->|instanceof)\\b|->|::|\\w+Exact\\(").matcher(code);
    while (bad.find()) {
      Due.fail("the file has the word " + bad.group());
    }
    Matcher imports = Pattern.compile("import ([^;]+);").matcher(code);
    while (imports.find()) {
      if (!imports.group(1).equals("java.util.Arrays")) Due.fail("the file imports " + imports.group(1));
    }
    library(code);
    for (int i = 0; i < source.length(); i++) {
      if (source.charAt(i) > 126) Due.fail("the file has the sign " + (int) source.charAt(i));
    }
    shortMethods(source);
    Due.is("classes inside", ChalkedDoors.class.getDeclaredClasses().length > 12 ? 1 : 0, 0);
  }
}
