import java.io.IOException;
import java.lang.reflect.Constructor;
import java.lang.reflect.Field;
import java.lang.reflect.Method;
import java.lang.reflect.Modifier;
import java.nio.file.Files;
import java.nio.file.Path;
import java.util.Arrays;
import java.util.Set;
import java.util.TreeSet;
import java.util.regex.Matcher;
import java.util.regex.Pattern;

/** The public face as the document prints it, and what of LANGUAGE.md can be seen by a look at the class and its text. */
public final class RingNamesRules {
  private static int wrong = 0;

  private static void must(boolean holds, String what) {
    if (!holds) { wrong++; System.out.println("not so: " + what); }
  }

  private static final String[] FACE = {
    "int type(int)", "int clear()", "int crew()", "int sailor(int,int)", "int seat(int,int)", "int now(int)",
    "int signs(int,int)", "int hour()", "int scrape(int)", "int undo()", "int will()", "int begin()", "int orders()",
    "int first()", "int sure(int)", "int chance(int,int)", "int ask()", "int hang()", "int shift(int)",
    "int odds(int,int,int)", "int bold(int)", "int clique(int)", "int rate(int,int)", "int keep(int)", "int back(int)",
    "int count(int)", "long trace()"};

  private static String headOf(Method m) {
    StringBuilder b = new StringBuilder(m.getReturnType().getName() + " " + m.getName() + "(");
    for (int i = 0; i < m.getParameterCount(); i++) b.append(i == 0 ? "" : ",").append(m.getParameterTypes()[i].getName());
    return b.append(")").toString();
  }

  private static void face() {
    Class<?> c = RingNames.class;
    must(Modifier.isPublic(c.getModifiers()) && Modifier.isFinal(c.getModifiers()), "the class is public and final");
    must(c.getPackage() == null || c.getPackage().getName().isEmpty(), "no package");
    Constructor<?>[] made = c.getDeclaredConstructors();
    must(made.length == 1 && Modifier.isPublic(made[0].getModifiers()) && made[0].getParameterCount() == 0, "one constructor");
    Set<String> due = new TreeSet<>(Arrays.asList(FACE));
    Set<String> got = new TreeSet<>();
    Set<String> names = new TreeSet<>();
    for (Method m : c.getDeclaredMethods()) {
      if (Modifier.isPrivate(m.getModifiers())) continue;
      must(Modifier.isPublic(m.getModifiers()) && !Modifier.isStatic(m.getModifiers()), "public: " + m);
      got.add(headOf(m));
      names.add(m.getName());
    }
    must(got.equals(due), "the methods are " + due + ", found " + got);
    for (Method m : c.getDeclaredMethods())
      must(!Modifier.isPrivate(m.getModifiers()) || !names.contains(m.getName()), "no private method bears a public name: " + m);
    Set<String> constants = new TreeSet<>();
    for (Field f : c.getDeclaredFields()) {
      if (Modifier.isPrivate(f.getModifiers())) continue;
      must(Modifier.isPublic(f.getModifiers()) && Modifier.isStatic(f.getModifiers()) && Modifier.isFinal(f.getModifiers())
          && f.getType() == int.class, "a constant: " + f);
      constants.add(f.getName());
    }
    must(constants.equals(new TreeSet<>(Arrays.asList("BAD", "STATE", "FULL", "NONE", "NO"))), "the constants: " + constants);
    must(RingNames.BAD == -1 && RingNames.STATE == -2 && RingNames.FULL == -3 && RingNames.NONE == -9
        && RingNames.NO == -1000000, "the constants' values");
  }

  private static void inside() {
    Class<?>[] classes = RingNames.class.getDeclaredClasses();
    must(classes.length + 1 <= 12, "twelve classes at most");
    for (Class<?> c : classes) {
      must(Modifier.isStatic(c.getModifiers()) || c.isInterface() || c.isEnum(), "static: " + c);
      must(!Modifier.isPublic(c.getModifiers()) && !Modifier.isProtected(c.getModifiers()), "private or package-visible: " + c);
      fields(c);
    }
    fields(RingNames.class);
  }

  private static void fields(Class<?> c) {
    int own = 0;
    for (Field f : c.getDeclaredFields()) {
      if (Modifier.isStatic(f.getModifiers())) must(Modifier.isFinal(f.getModifiers()), "static and final: " + f);
      else own++;
    }
    must(own <= 20, "twenty fields at most: " + c);
    for (Method m : c.getDeclaredMethods()) must(m.getParameterCount() <= 7, "seven parameters at most: " + m);
  }

  private static void text() throws IOException {
    String whole = Files.readString(Path.of("src/main/java/RingNames.java"));
    String text = whole.replaceAll("(?s)/\\*.*?\\*/", "").replaceAll("//[^\n]*", "");
    for (String word : new String[] {"throw", "throws", "try", "catch", "finally", "synchronized", "assert", "package", "Random",
        "System", "Thread", "equals", "hashCode", "toString", "instanceof", "Object"})
      must(!Pattern.compile("\\b" + word + "\\b").matcher(text).find(), "the word does not stand there: " + word);
    for (String sign : new String[] {"->", "::", "Exact("})
      must(!text.contains(sign), "the sign does not stand there: " + sign);
    Matcher imports = Pattern.compile("import ([\\w.*]+);").matcher(text);
    while (imports.find()) must(imports.group(1).equals("java.util.Arrays"), "the import is allowed: " + imports.group(1));
    for (int i = 0; i < whole.length(); i++) must(whole.charAt(i) < 128, "a plain letter at " + i);
    methodLengths(whole);
  }

  /** A method's body is what a line that ends in ") {" opens at four or eight blanks. */
  private static void methodLengths(String whole) {
    String[] lines = whole.split("\n");
    for (int i = 0; i < lines.length; i++) {
      String head = lines[i];
      String in = head.substring(0, head.length() - head.stripLeading().length());
      if (in.length() != 4 && in.length() != 8 || !head.endsWith(") {") || head.strip().matches("(if|for|while|switch).*")) continue;
      int end = i;
      while (end < lines.length && !lines[end].equals(in + "}")) end++;
      must(end - i <= 60, "sixty lines at most: " + head.strip());
    }
  }

  public static void main(String[] args) throws IOException {
    face();
    inside();
    text();
    System.out.println(wrong == 0 ? "the rules that can be seen are kept" : wrong + " rules are not kept");
    if (wrong != 0) System.exit(1);
  }
}
