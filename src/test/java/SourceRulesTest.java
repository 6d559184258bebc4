import java.lang.reflect.Constructor;
import java.lang.reflect.Field;
import java.lang.reflect.Method;
import java.lang.reflect.Modifier;
import java.nio.file.Files;
import java.nio.file.Path;
import java.util.ArrayList;
import java.util.List;
import java.util.Set;
import java.util.TreeSet;
import java.util.regex.Matcher;
import java.util.regex.Pattern;

// The face of the document, and those rules of LANGUAGE.md that can be told by looking at the source.
public final class SourceRulesTest {
  private static final String[] FACE = {
      "int feed(int)", "int end(int)", "int text()", "int fault()", "int rule(int)", "int stuff(int,int)",
      "int fill(int,int)", "int feeds(int,int)", "int price(int,int)", "int kind(int,int)", "int does(int)",
      "int eat(int)", "int can(int)", "int most(int)", "int holds(int,int)", "int cost(int)", "int turns(int,int)",
      "int comes(int,int)", "int after(int,int,int)", "int first(int,int)", "int loss(int)",
      "long mean(int,int,int,int)", "int best(int,int)", "int least(int,int)", "int see(int)", "int forget(int)",
      "int fits()", "int pairs(int)", "int drift(int,int,int)", "int keep(int)", "int back(int)",
      "int sheet(int,int,int)", "int lay(int,int,int)", "int read(int,int,int,int)", "int torn()", "int count(int)"};
  private static int wrong = 0;

  private static void holds(boolean so, String what) {
    if (!so) {
      wrong++;
      System.out.println("SourceRulesTest: " + what);
    }
  }

  private static String told(Method m) {
    StringBuilder s = new StringBuilder(m.getReturnType().getName()).append(' ').append(m.getName()).append('(');
    for (Class<?> p : m.getParameterTypes()) s.append(s.charAt(s.length() - 1) == '(' ? "" : ",").append(p.getName());
    return s.append(')').toString();
  }

  private static void checkFace() {
    Set<String> want = new TreeSet<>(List.of(FACE));
    Set<String> got = new TreeSet<>();
    Set<String> names = new TreeSet<>();
    for (Method m : UncookMill.class.getDeclaredMethods()) {
      if (Modifier.isPublic(m.getModifiers())) {
        got.add(told(m));
        names.add(m.getName());
      }
    }
    holds(got.equals(want), "public methods are " + got);
    for (Method m : UncookMill.class.getDeclaredMethods())
      if (!Modifier.isPublic(m.getModifiers())) {
        holds(Modifier.isPrivate(m.getModifiers()), m + " is no private method");
        holds(!names.contains(m.getName()), m + " bears a public name");
      }
    int constants = 0;
    for (Field f : UncookMill.class.getDeclaredFields()) {
      if (Modifier.isPublic(f.getModifiers())) constants++;
      else holds(Modifier.isPrivate(f.getModifiers()), f + " is not private");
      if (Modifier.isStatic(f.getModifiers())) holds(Modifier.isFinal(f.getModifiers()), f + " is not final");
    }
    holds(constants == 4, "there are " + constants + " public fields");
    Constructor<?>[] makers = UncookMill.class.getDeclaredConstructors();
    holds(makers.length == 1 && Modifier.isPublic(makers[0].getModifiers()), "the constructor");
    holds(Modifier.isFinal(UncookMill.class.getModifiers()), "the class is not final");
    for (Class<?> inside : UncookMill.class.getDeclaredClasses()) {
      holds(Modifier.isStatic(inside.getModifiers()), inside + " is not static");
      holds(!Modifier.isPublic(inside.getModifiers()), inside + " is public");
      for (Method m : inside.getDeclaredMethods()) holds(!names.contains(m.getName()), m + " bears a public name");
      holds(inside.getDeclaredFields().length <= 32, inside + " has too many fields");
    }
    holds(UncookMill.class.getDeclaredClasses().length <= 11, "too many classes");
  }

  private static void checkSource(String source) {
    String code = source.replaceAll("(?s)/\\*.*?\\*/", " ").replaceAll("//[^\n]*", " ");
    String[] words = {"throw", "throws", "try", "catch", "synchronized", "assert", "import", "package", "protected", "Object"};
    for (String word : words)
      holds(!Pattern.compile("\\b" + word + "\\b").matcher(code).find(), "the source has '" + word + "'");
    holds(!code.contains("->") && !code.contains("::"), "the source has a lambda or a method reference");
    Matcher dots = Pattern.compile("\\b(Math|Arrays|System|Integer|Long)\\.(\\w+)").matcher(code);
    List<String> used = new ArrayList<>();
    while (dots.find()) used.add(dots.group());
    for (String use : used) holds(!use.endsWith("Exact"), use);
    for (int i = 0; i < source.length(); i++)
      if (source.charAt(i) > 126) holds(false, "a sign above 126 at " + i);
  }

  public static void main(String[] args) throws Exception {
    checkFace();
    checkSource(Files.readString(Path.of("src/main/java/UncookMill.java")));
    System.out.println("SourceRulesTest: " + wrong + " wrong");
    if (wrong != 0) System.exit(1);
  }
}
