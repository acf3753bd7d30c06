import java.util.function.ToLongFunction;

/**
 * What tests have in common, and extend to have it at hand: each answer that is not the one that is due is printed
 * and counted.
 */
abstract class Check extends Doc {
  static final int BAD = -1, NONE = -2, FULL = -3, SEAL = -10;
  private static final int MOST_PRINTED = 60;
  private static int wrong = 0;
  private static String sentence = "";

  /** The promise, or the document's sentence, that the answers after this are due by. */
  static void of(String text) {
    sentence = text;
  }

  static void due(String call, long got, long want) {
    if (got == want) return;
    wrong++;
    if (wrong <= MOST_PRINTED) System.out.println("[" + sentence + "] " + call + " answered " + got + ", due is " + want);
  }

  static void holds(String what, boolean it) {
    due(what, it ? 1 : 0, 1);
  }

  /**
   * A call that must be answered so, and leave all else as it was: all that can be told, and all that calls behind
   * it will answer. It is made on a twin, the object itself goes without it.
   */
  static void refused(String what, Post x, long want, ToLongFunction<Post> call) {
    Post twin = x.twin();
    due(what, call.applyAsLong(twin), want);
    holds(what + " leaves all else as it was", twin.everything(x.room()).equals(x.everything(x.room())));
  }

  /** A letter that must be refused with this FAULT. */
  static void fault(String what, Post x, int letter, int u, int fault) {
    refused(what + ": come(" + letter + ", " + u + ")", x, -10 - fault, y -> y.come(letter, u));
  }

  static void end(String right) {
    System.out.println(wrong == 0 ? right : wrong + " answers are not as due");
    if (wrong != 0) System.exit(1);
  }
}
