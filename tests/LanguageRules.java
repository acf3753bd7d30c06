import java.lang.reflect.Constructor;
import java.lang.reflect.Field;
import java.lang.reflect.Method;
import java.lang.reflect.Modifier;
import java.nio.file.Files;
import java.nio.file.Path;
import java.util.Arrays;
import java.util.HashSet;
import java.util.List;
import java.util.Set;
import java.util.TreeSet;
import java.util.regex.Matcher;
import java.util.regex.Pattern;

/** The face of the class, and those rules of LANGUAGE.md that can be seen from outside. Run in the project's root. */
public final class LanguageRules {
  private static final List<String> FACE = List.of(
      "int feed(int,int,int,int,int)", "int end(int)", "int register(int)", "int publish(int,int)",
      "int rotate(int)", "int write(int,int)", "int begin(int,int)", "int forget(int,int)",
      "int come(int,int)", "int byteOf(int)", "int copy(int)", "int spoil(int,int,int)",
      "int letter(int,int)", "int forge(int,long)", "int user(int,int)", "long number(int,int)",
      "int session(int,int,int,int)", "long inside(int,int,int,int)", "int same(int,int,int,int)",
      "int look(int)", "int readable(int)", "int count(int)");
  private static final List<Class<?>> LIBRARY_TYPES = List.of(String.class, StringBuilder.class, Integer.class,
      java.util.ArrayList.class, List.class, Object.class);
  /** "Some twelve", "some twenty", "some sixty". */
  private static final int MOST_CLASSES = 13, MOST_FIELDS = 21, MOST_LINES = 62;
  private static int wrong = 0;

  private static void check(boolean holds, String rule) {
    if (!holds) { wrong++; System.out.println("broken: " + rule); }
  }

  public static void main(String[] args) throws Exception {
    face();
    members();
    source();
    System.out.println(wrong == 0 ? "the language is kept to" : wrong + " rules are broken");
    if (wrong != 0) System.exit(1);
  }

  private static void face() {
    Class<?> type = RatchetPost.class;
    check(Modifier.isPublic(type.getModifiers()) && Modifier.isFinal(type.getModifiers()), "1: public and final");
    Set<String> seen = new TreeSet<>();
    Set<String> names = new HashSet<>();
    for (Method m : type.getDeclaredMethods()) {
      if (Modifier.isPrivate(m.getModifiers()) || m.isSynthetic()) continue;
      StringBuilder text = new StringBuilder(m.getReturnType().getName() + " " + m.getName() + "(");
      Class<?>[] types = m.getParameterTypes();
      for (int i = 0; i < types.length; i++) text.append(i == 0 ? "" : ",").append(types[i].getName());
      seen.add(text.append(")").toString());
      names.add(m.getName());
      check(Modifier.isPublic(m.getModifiers()) && !Modifier.isStatic(m.getModifiers()), "1: " + m);
    }
    check(seen.equals(new TreeSet<>(FACE)), "1: the methods are " + seen);
    Constructor<?>[] made = type.getDeclaredConstructors();
    check(made.length == 1 && Modifier.isPublic(made[0].getModifiers())
        && Arrays.equals(made[0].getParameterTypes(), new Class<?>[] {int.class, int.class}), "1: the constructor");
    Set<String> constants = new TreeSet<>();
    for (Field f : type.getDeclaredFields()) if (!Modifier.isPrivate(f.getModifiers())) constants.add(f.getName());
    check(constants.equals(new TreeSet<>(List.of("BAD", "NONE", "FULL"))), "1: the constants are " + constants);
    check(RatchetPost.BAD == -1 && RatchetPost.NONE == -2 && RatchetPost.FULL == -3, "the constants' values");
    for (Class<?> c : withInner(type))
      for (Method m : c.getDeclaredMethods())
        check(!Modifier.isPrivate(m.getModifiers()) || !names.contains(m.getName()), "1: name of " + m);
  }

  private static List<Class<?>> withInner(Class<?> type) {
    List<Class<?>> all = new java.util.ArrayList<>(List.of(type));
    all.addAll(Arrays.asList(type.getDeclaredClasses()));
    return all;
  }

  private static void members() {
    List<Class<?>> all = withInner(RatchetPost.class);
    check(all.size() <= MOST_CLASSES, "11: " + all.size() + " classes");
    for (Class<?> c : all) {
      check(c == RatchetPost.class || Modifier.isStatic(c.getModifiers()), "2: static " + c);
      check(c.getDeclaredClasses().length == 0 || c == RatchetPost.class, "2: classes inside " + c);
      int fields = 0;
      for (Field f : c.getDeclaredFields()) {
        if (f.isSynthetic()) continue;
        if (Modifier.isStatic(f.getModifiers())) check(Modifier.isFinal(f.getModifiers()) && isConstant(f.getType(), all), "5: " + f);
        else fields++;
        check(isAllowed(f.getType(), all), "3: type of " + f);
      }
      check(fields <= MOST_FIELDS, "11: " + fields + " fields in " + c);
      for (Method m : c.getDeclaredMethods()) check(m.getParameterCount() <= 7, "11: parameters of " + m);
    }
  }

  private static boolean isConstant(Class<?> type, List<Class<?>> own) {
    return type.isPrimitive() || type == String.class || own.contains(type) && type.isEnum()
        || List.of(int[].class, long[].class, char[].class, byte[].class).contains(type)
        || type.isArray() && type.getComponentType().isEnum();
  }

  /** A field of a generic class's own type is seen as one of Object. */
  private static boolean isAllowed(Class<?> type, List<Class<?>> own) {
    if (!type.isArray()) return type.isPrimitive() || own.contains(type) || LIBRARY_TYPES.contains(type);
    Class<?> part = type.getComponentType();
    return part.isPrimitive() || own.contains(part) || part.isArray() && part.getComponentType().isPrimitive();
  }

  private static void source() throws Exception {
    String text = Files.readString(Path.of("src/main/java/RatchetPost.java"));
    String code = text.replaceAll("(?s)/\\*.*?\\*/", "").replaceAll("//[^\n]*", "");
    for (String word : List.of("throw", "throws", "try", "catch", "synchronized", "assert", "package", "protected",
        "volatile", "hashCode", "\\w+Exact", "Random", "Thread")) {
      check(!Pattern.compile("\\b" + word + "\\b").matcher(code).find(), "1, 4, 6, 13: the word " + word);
    }
    String withoutCases = code.replaceAll("\\b(case [^;{}>]*|default) ->", "");
    check(!withoutCases.contains("->") && !code.contains("::"), "2: no lambda, no method reference");
    eachMatch(code, "\\bimport ([\\w.*]+)", List.of("java.util.ArrayList", "java.util.List", "java.util.Arrays", "java.util.Iterator"));
    eachMatch(code, "\\bSystem\\.(\\w+)", List.of("arraycopy"));
    eachMatch(code, "\\bArrays\\.(\\w+)", List.of("copyOf", "copyOfRange", "fill"));
    check(text.chars().allMatch(c -> c < 256), "3: characters 0 to 255 alone");
    methodLengths(text);
  }

  private static void eachMatch(String code, String pattern, List<String> allowed) {
    Matcher found = Pattern.compile(pattern).matcher(code);
    while (found.find()) check(allowed.contains(found.group(1)), "4: " + found.group());
  }

  /** A method begins at an indented line that ends with ") {" and has a return type, and ends at its brace's column. */
  private static void methodLengths(String text) {
    String[] lines = text.split("\n");
    Pattern head = Pattern.compile("^( {4}| {8})(public |private |static |final )*[\\w\\[\\]]+ \\w+\\(.*\\) \\{$");
    for (int i = 0; i < lines.length; i++) {
      Matcher m = head.matcher(lines[i]);
      if (!m.matches() || lines[i].trim().matches("(if|for|while|switch|else|return).*")) continue;
      int end = i;
      while (end < lines.length && !lines[end].equals(m.group(1) + "}")) end++;
      check(end - i <= MOST_LINES, "11: a method of " + (end - i) + " lines at line " + (i + 1));
    }
  }
}
