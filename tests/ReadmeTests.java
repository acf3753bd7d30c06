import java.lang.reflect.Method;
import java.nio.file.Files;
import java.nio.file.Path;
import java.util.List;
import java.util.regex.Matcher;
import java.util.regex.Pattern;

/**
 * README.md is held to what it says: its run of calls is made, line by line, and must answer what stands behind
 * each call; and the document's face must stand in it. Run in the project's root.
 */
public final class ReadmeTests extends Check {
  private static final Pattern NEW = Pattern.compile("RatchetPost post = new RatchetPost\\((.*?)\\);.*");
  private static final Pattern CALL = Pattern.compile("post\\.(\\w+)\\((.*?)\\);\\s*// (-?\\w+).*");
  private static final List<String> CONSTANTS = List.of("`BAD` (-1)", "`NONE` (-2)", "`FULL` (-3)");
  private static final int LEAST_CALLS = 20;

  public static void main(String[] args) throws Exception {
    String readme = Files.readString(Path.of("README.md"));
    String document = Files.readString(Path.of("../shared/DOC.md"));
    of("README.md: its run of calls");
    calls(javaPart(readme));
    of("README.md: the document's face");
    face(readme, javaPart(document));
    end("README.md says what the class does");
  }

  /** The lines between the first fence of Java and the next fence; the document has its face there. */
  private static String javaPart(String text) {
    String fence = "```java\n";
    int from = text.indexOf(fence);
    int to = from < 0 ? -1 : text.indexOf("```", from + fence.length());
    holds("it has a part in Java", to >= 0);
    return to < 0 ? "" : text.substring(from + fence.length(), to);
  }

  private static void calls(String part) throws Exception {
    RatchetPost post = null;
    int made = 0;
    for (String line : part.split("\n")) {
      Matcher first = NEW.matcher(line), call = CALL.matcher(line);
      if (first.matches()) {
        String[] numbers = first.group(1).split(", ");
        post = new RatchetPost(Integer.decode(numbers[0]), Integer.decode(numbers[1]));
      } else if (call.matches() && post != null) {
        due(line.trim(), answer(post, call.group(1), call.group(2).split(", ")), Long.decode(call.group(3)));
        made++;
      } else {
        holds("a line is a call with its answer: " + line, line.isBlank());
      }
    }
    holds("so many calls stand there: " + made, made >= LEAST_CALLS);
  }

  private static long answer(RatchetPost post, String name, String[] numbers) throws Exception {
    for (Method method : RatchetPost.class.getMethods()) {
      if (!method.getName().equals(name) || method.getParameterCount() != numbers.length) continue;
      Object[] given = new Object[numbers.length];
      for (int i = 0; i < numbers.length; i++) {
        long number = Long.decode(numbers[i]);
        if (method.getParameterTypes()[i] == long.class) given[i] = number;
        else given[i] = (int) number;
      }
      return ((Number) method.invoke(post, given)).longValue();
    }
    holds("there is a method " + name, false);
    return 0;
  }

  /** Each method, and the constructor, stands there as the document writes it. */
  private static void face(String readme, String document) {
    int found = 0;
    Matcher member = Pattern.compile("public ((?:int |long )?\\w+\\([^)]*\\));").matcher(document);
    while (member.find()) {
      found++;
      holds("it has " + member.group(1), readme.contains("`" + member.group(1) + "`"));
    }
    due("members of the document's face", found, 23);
    for (String constant : CONSTANTS) holds("it has " + constant, readme.contains(constant));
  }
}
