import java.io.IOException;
import java.lang.reflect.Field;
import java.lang.reflect.Method;
import java.lang.reflect.Modifier;
import java.nio.file.Files;
import java.nio.file.Path;
import java.util.Set;
import java.util.TreeSet;
import java.util.regex.Matcher;
import java.util.regex.Pattern;

/** The face, and what rules of LANGUAGE.md can be seen from the class files and from the text. */
public final class LanguageTest {
  private static final Check check = new Check("LanguageTest");
  private static final String FACE = "act(int,int,int) ask(int,int) beside(int) book(int,int)"
      + " breaks(int,int,int,int,int) cell(int,int,int) chip(int,int) copy(int,int,int,int,int) count(int) cover(int)"
      + " cross(int,int,int) does(int,int,int,int) done(int,int) fault(int,int,int,int) feed(int,int)"
      + " field(int,int,int) file(int,int,boolean) first(int,int,int,int) fit(int,int) input(int,int)"
      + " knew(int,int,int) leaps(int,int) meant(int,int) mend(int,int,int,int,int,int) mendRule(int,int,int,int)"
      + " night(int) posts(int,int) program() programOf(int,int) reach(int) run(int,int) set(int,int,int)"
      + " sheet(int,int,int) shelf(int,int,int,int,int) shows(int,int) sign(int,int,boolean,int,int)"
      + " stop(int,int,int,int) taken(int,int) test(int,int,int,int) testYear(int) thing(int,int) trace(int)";

  private LanguageTest() {
  }

  public static void main(String[] args) throws IOException {
    Set<String> face = face();
    noOtherMembers(face);
    classesInside(face);
    text(Files.readString(Path.of("src/main/java/TwoDigits.java")));
    check.finish();
  }

  /** Rule 1: the face and nothing else. Answers the names of its methods. */
  private static Set<String> face() {
    Set<String> names = new TreeSet<>();
    StringBuilder found = new StringBuilder();
    Set<String> methods = new TreeSet<>();
    for (Method m : TwoDigits.class.getDeclaredMethods()) {
      if (Modifier.isPublic(m.getModifiers())) {
        StringBuilder types = new StringBuilder();
        for (Class<?> type : m.getParameterTypes()) {
          types.append(types.length() == 0 ? "" : ",").append(type);
        }
        methods.add(m.getName() + "(" + types + ")");
        names.add(m.getName());
        check.holds(m + " answers an int", m.getReturnType() == int.class && !Modifier.isStatic(m.getModifiers()));
      }
    }
    for (String m : methods) {
      found.append(found.length() == 0 ? "" : " ").append(m);
    }
    check.holds("the face is " + found, found.toString().equals(FACE));
    int it = TwoDigits.class.getModifiers();
    check.holds("public and final", Modifier.isPublic(it) && Modifier.isFinal(it));
    check.due("constructors", TwoDigits.class.getDeclaredConstructors().length, 1);
    return names;
  }

  private static void noOtherMembers(Set<String> face) {
    for (Method m : TwoDigits.class.getDeclaredMethods()) {
      int it = m.getModifiers();
      check.holds(m + " is public or private", Modifier.isPublic(it) || Modifier.isPrivate(it));
    }
    int constants = 0;
    for (Field f : TwoDigits.class.getDeclaredFields()) {
      int it = f.getModifiers();
      if (Modifier.isPublic(it)) {
        constants++;
        check.holds(f + " is of the face", Set.of("NONE", "BAD", "STATE", "FULL").contains(f.getName()));
        check.holds(f + " is a constant", Modifier.isStatic(it) && Modifier.isFinal(it) && f.getType() == int.class);
      } else {
        check.holds(f + " is private", Modifier.isPrivate(it));
      }
    }
    check.due("public constants", constants, 4);
    oneClass(TwoDigits.class, face);
  }

  /** Rules 1, 2 and 11. */
  private static void classesInside(Set<String> face) {
    Class<?>[] inside = TwoDigits.class.getDeclaredClasses();
    check.holds("classes: " + (1 + inside.length), inside.length <= 12);
    for (Class<?> c : inside) {
      int it = c.getModifiers();
      check.holds(c + " is static and not public", Modifier.isStatic(it) && !Modifier.isPublic(it)
          && !Modifier.isProtected(it));
      oneClass(c, face);
    }
  }

  private static void oneClass(Class<?> c, Set<String> face) {
    int fields = 0;
    for (Field f : c.getDeclaredFields()) {
      if (Modifier.isStatic(f.getModifiers())) {
        check.holds(f + " is final", Modifier.isFinal(f.getModifiers()));
        check.holds(f + " is a constant number", f.getType().isPrimitive());
      } else {
        fields++;
      }
    }
    check.holds(c + " has " + fields + " fields", fields <= 20);
    for (Method m : c.getDeclaredMethods()) {
      check.holds(m + " takes seven at most", m.getParameterCount() <= 7);
      check.holds(m + " bears no name of the face", Modifier.isPublic(m.getModifiers()) || !face.contains(m.getName()));
    }
  }

  /** Rules 2, 4, 6, 9 and 13, and methods that stay short. */
  private static void text(String text) {
    String bare = text.replaceAll("(?s)/\\*.*?\\*/", "").replaceAll("//[^\n]*", "")
        .replaceAll("'(\\\\.|[^'\\\\])'", "' '").replaceAll("\"[^\"\n]*\"", "\"\"");
    String[] forbidden = {
      "throw", "throws", "try", "catch", "finally", "synchronized", "assert", "import", "package", "System\\.out",
      "System\\.exit", "System\\.nano\\w*", "System\\.current\\w*", "Random", "Thread", "Object", "var", "yield",
      "record", "goto", "hashCode", "toString", "transient", "volatile", "native", "Exception", "Error", "\\w+Exact"};
    for (String word : forbidden) {
      check.holds("no " + word, !Pattern.compile("\\b" + word + "\\b").matcher(bare).find());
    }
    check.holds("no lambda", !bare.contains("->"));
    check.holds("no method reference", !bare.contains("::"));
    check.holds("no endless loop", !Pattern.compile("while \\(true\\)|for \\(;;\\)").matcher(bare).find());
    check.holds("signs of 1 to 127 alone", text.chars().allMatch(c -> c >= 1 && c <= 127));
    Matcher called = Pattern.compile("\\b(Math|Integer|System|Arrays|Long|String)\\.(\\w+)").matcher(bare);
    Set<String> library = Set.of("Math.min", "Math.max", "Math.abs", "Math.floorMod", "Integer.bitCount",
        "Integer.compare", "System.arraycopy");
    while (called.find()) {
      check.holds("the library: " + called.group(), library.contains(called.group()));
    }
    shortMethods(bare.split("\n"));
  }

  private static void shortMethods(String[] lines) {
    Pattern head = Pattern.compile("^( {2}| {4})(?! )(?!.*\\bclass\\b).*\\) \\{$");
    for (int i = 0; i < lines.length; i++) {
      Matcher m = head.matcher(lines[i]);
      if (!m.matches()) {
        continue;
      }
      int last = i;
      while (last < lines.length && !lines[last].equals(m.group(1) + "}")) {
        last++;
      }
      check.holds(lines[i].trim() + " has " + (last - i + 1) + " lines", last - i + 1 <= 60);
    }
  }
}
