/** What BAD, NONE, FULL, - 10 and 0 are answered for, promise by promise, on both sides of each bound. */
public final class BoundsOfCalls extends Check {
  private static final int MIN = Integer.MIN_VALUE, MAX = Integer.MAX_VALUE;
  /** Of users 0 .. 3: no user, on both sides. */
  private static final int[] NO_USERS = {MIN, -2, -1, 4, 5, 6, MAX};

  public static void main(String[] args) {
    of("1: n users (2 .. 6, others as the nearest)"); users();
    of("1: SEEDS are seed, seed + 1, .. (numbers of 64 bits)"); seeds();
    of("2: FULL: above 40"); feedFull();
    of("2: the highest of each number first"); feedBytes();
    of("3: the first n (0 .. 20) stay; BAD: another n"); endNumbers();
    of("3: BAD: fewer than twenty are there"); endOfFew();
    of("4: 0: it has; BAD: none such"); register();
    of("5: BAD: none such, another number; NONE"); publishBad();
    of("5: FULL: above 12"); publishTwelve();
    of("5: FULL: above 60 were made"); publishSixty();
    of("6: BAD, NONE; FULL: 20 were made"); rotate();
    of("7: BAD: none such, the same, an empty tape"); writeBad();
    of("7: NONE: one of both has not REGISTERED"); writeNone();
    of("7: FULL: 80 letters were written (copies, too)"); writeEighty();
    of("7: FULL: one is to be BEGUN and 100 SESSIONS were BEGUN in all"); writeHundred();
    of("7: - 10: the SEAL is not RIGHT (the ONCE key is gone)"); writeSeal();
    of("7: the tape (1 .. 40 bytes), which is empty then"); writeTape();
    of("8: BAD, NONE"); beginBad();
    of("8: FULL (100)"); beginHundred();
    of("8: - 10 as write()"); beginSeal();
    of("9: how many; BAD: none such, the same"); forget();
    of("10: BAD: no such user, letter"); come();
    of("10: the READING stays"); comeReading();
    of("11: BAD: none such"); byteOf();
    of("12: BAD: none such. FULL: 80 letters"); copy();
    of("13: BAD: no such letter, place, mask 1 .. 255"); spoil();
    of("14: place - 1: how many it has. BAD: none such"); letter();
    of("15: BAD: none such, not REGISTERED; not 1 .. P - 1"); forge();
    of("16: BAD: none such"); user();
    of("16: the least one's number (0)"); userLeast();
    of("17: 0: none such"); number();
    of("18: i = - 1, what 0: how many there are. BAD: none such"); session();
    of("19: RECEIVING (0: none). 0: none such"); inside();
    of("20: BAD: none such"); same();
    of("21: BAD: no such user"); look();
    of("22: BAD: none such"); readable();
    of("23: BAD: another number"); count();
    of("what is told changes nothing"); toldChangesNothing();
    end("all bounds of calls hold");
  }

  /**
   * Users 0, 1, 2 have REGISTERED, 3 has not. There are ONCE keys, KEPT keys, sessions on both sides, letters that have
   * come and that have not, a copy, a READING of 6 bytes, a tape of 7, and somebody LOOKED.
   */
  private static Post busy() {
    Post x = new Post(4, 77);
    for (int u = 0; u < 3; u++) x.register(u);
    x.publish(1, 3);
    x.publish(0, 1);
    x.send(0, 1, 4);
    x.send(0, 1, 5);
    int third = x.send(0, 1, 6);
    x.come(third, 1);
    x.send(1, 0, 3);
    x.send(2, 1, 9);
    x.send(1, 2, 8);
    x.copy(1);
    x.look(2);
    x.type(7);
    return x;
  }

  private static void users() {
    int[][] rows = {{MIN, 2}, {-6, 2}, {-1, 2}, {0, 2}, {1, 2}, {2, 2}, {3, 3}, {4, 4}, {5, 5}, {6, 6}, {7, 6}, {8, 6}, {100, 6}, {MAX, 6}};
    for (int[] row : rows) {
      Post x = new Post(row[0], 5);
      int last = row[1] - 1;
      due("user " + last + " of n = " + row[0], x.user(last, 0), 0);
      due("user " + row[1] + " of n = " + row[0], x.user(row[1], 0), BAD);
      due("register(" + row[1] + ") of n = " + row[0], x.register(row[1]), BAD);
      due("register(" + last + ") of n = " + row[0], x.register(last), 1);
      due("register(0) of n = " + row[0], x.register(0), 1);
      due("come of the last one's letter of n = " + row[0], x.come(x.send(last, 0, 2), 0), 2);
      due("begin with the last one of n = " + row[0], x.begin(0, last), 1);
    }
  }

  private static void seeds() {
    for (int seed : new int[] {MIN, MIN + 1, -7, -6, -5, -1, 0, 1, MAX - 5, MAX - 1, MAX}) {
      Post x = Post.registered(6, seed);
      for (int u = 0; u < 6; u++) due("IDENTITY of " + u + " with seed " + seed, x.number(u, 0), open(identityOf((long) seed + u)));
    }
  }

  private static void feedFull() {
    for (int before = 0; before <= 20; before++) {
      Post x = Post.registered(2, 9);
      x.type(before);
      due("feed behind " + before, x.feed(1, 2, 3, 4, 5), before + 20);
      due("the tape", x.count(4), before + 20);
      if (before > 0) refused("feed behind " + (before + 20), x, FULL, y -> y.feed(1, 2, 3, 4, 5));
      due("come", x.come(x.write(0, 1), 1), before + 20);
      due("feed behind an empty tape", x.feed(1, 2, 3, 4, 5), 20);
    }
  }

  private static void feedBytes() {
    Post x = Post.registered(2, 9);
    int[] numbers = {0x80000000, 0x7FFFFFFF, -1, 0x00FF0100, 0x0102FEFF};
    x.feed(numbers[0], numbers[1], numbers[2], numbers[3], numbers[4]);
    x.feed(numbers[4], numbers[3], numbers[2], numbers[1], numbers[0]);
    due("come", x.come(x.write(0, 1), 1), 40);
    for (int i = 0; i < 40; i++) {
      int number = numbers[i < 20 ? i / 4 : 9 - i / 4];
      due("byte " + i, x.byteOf(i), number >>> 24 - i % 4 * 8 & 255);
    }
  }

  private static void endNumbers() {
    for (int before : new int[] {20, 21, 39, 40}) {
      for (int n : new int[] {0, 1, 2, 10, 19, 20}) {
        Post x = Post.registered(2, 9);
        x.type(before);
        due("end(" + n + ") of " + before, x.end(n), before - 20 + n);
        due("the tape", x.count(4), before - 20 + n);
        if (before - 20 + n == 0) continue;
        due("come", x.come(x.write(0, 1), 1), before - 20 + n);
        for (int i = 0; i < before - 20 + n; i++) due("byte " + i, x.byteOf(i), i + 1);
      }
      Post x = Post.registered(2, 9);
      x.type(before);
      for (int n : new int[] {MIN, -20, -1, 21, 40, MAX}) refused("end(" + n + ") of " + before, x, BAD, y -> y.end(n));
    }
  }

  private static void endOfFew() {
    for (int before = 0; before <= 21; before++) {
      Post x = Post.registered(2, 9);
      x.type(before);
      if (before < 20) {
        for (int n : new int[] {0, 1, 20}) refused("end(" + n + ") of " + before, x, BAD, y -> y.end(n));
      } else {
        due("end(1) of " + before, x.end(1), before - 19);
      }
    }
  }

  private static void register() {
    Post x = busy();
    for (int u : NO_USERS) refused("register(" + u + ")", x, BAD, y -> y.register(u));
    for (int u = 0; u < 3; u++) {
      int again = u;
      refused("register(" + u + ") again", x, 0, y -> y.register(again));
    }
    due("register(3)", x.register(3), 1);
    refused("register(3) again", x, 0, y -> y.register(3));
  }

  private static void publishBad() {
    Post x = busy();
    for (int u : NO_USERS) refused("publish(" + u + ", 1)", x, BAD, y -> y.publish(u, 1));
    for (int many : new int[] {MIN, -12, -1, 0, 13, 14, 60, MAX}) {
      refused("publish(0, " + many + ")", x, BAD, y -> y.publish(0, many));
      refused("publish(3, " + many + ") of none REGISTERED", x, BAD, y -> y.publish(3, many));
    }
    for (int many : new int[] {1, 12}) refused("publish(3, " + many + ")", x, NONE, y -> y.publish(3, many));
    due("publish(2, 1)", x.publish(2, 1), 1);
    Post y = busy();
    due("publish(2, 12)", y.publish(2, 12), 12);
  }

  private static void publishTwelve() {
    for (int there = 1; there <= 12; there++) {
      Post x = Post.registered(2, 21);
      due("publish", x.publish(1, there), there);
      for (int many = 13 - there; many <= 12 && many < 16 - there; many++) {
        int more = many;
        refused("publish(1, " + many + ") to " + there, x, FULL, y -> y.publish(1, more));
      }
      if (there < 12) due("publish(1, " + (12 - there) + ") to " + there, x.publish(1, 12 - there), 12);
      refused("publish(1, 1) to 12", x, FULL, y -> y.publish(1, 1));
      x.begin(0, 1);
      due("behind a BUNDLE", x.publish(1, 1), 12);
      due("made", x.user(1, 4), 13);
    }
  }

  private static void publishSixty() {
    Post x = Post.registered(2, 22);
    for (int i = 0; i < 5; i++) {
      due("publish(1, 11)", x.publish(1, 11), 11);
      for (int k = 0; k < 11; k++) x.begin(0, 1);
    }
    refused("publish(1, 6) of 55", x, FULL, y -> y.publish(1, 6));
    refused("publish(1, 12) of 55", x, FULL, y -> y.publish(1, 12));
    Post z = x.twin();
    due("publish(1, 5) of 55", z.publish(1, 5), 5);
    refused("publish(1, 1) of 60", z, FULL, y -> y.publish(1, 1));
    due("publish(1, 4) of 55", x.publish(1, 4), 4);
    refused("publish(1, 2) of 59", x, FULL, y -> y.publish(1, 2));
    due("publish(1, 1) of 59", x.publish(1, 1), 5);
    refused("publish(1, 1) of 60", x, FULL, y -> y.publish(1, 1));
    for (int k = 0; k < 5; k++) x.begin(0, 1);
    refused("publish(1, 1) of 60, with none there", x, FULL, y -> y.publish(1, 1));
    due("publish(0, 12) of the other one", x.publish(0, 12), 12);
  }

  private static void rotate() {
    Post x = busy();
    for (int u : NO_USERS) refused("rotate(" + u + ")", x, BAD, y -> y.rotate(u));
    refused("rotate(3)", x, NONE, y -> y.rotate(3));
    for (int k = 2; k <= 20; k++) due("rotate(0)", x.rotate(0), k);
    refused("rotate(0) of 20", x, FULL, y -> y.rotate(0));
    due("rotate(1) of the other one", x.rotate(1), 2);
    due("a letter begins with LENT key 20", x.bytesOf(x.send(2, 0, 1), 19, 2), 20);
  }

  private static void writeBad() {
    Post x = busy();
    for (int u : NO_USERS) {
      refused("write(" + u + ", 0)", x, BAD, y -> y.write(u, 0));
      refused("write(0, " + u + ")", x, BAD, y -> y.write(0, u));
      refused("write(3, " + u + ") of none REGISTERED", x, BAD, y -> y.write(3, u));
    }
    for (int u = 0; u < 4; u++) {
      int one = u;
      refused("write(" + u + ", " + u + ")", x, BAD, y -> y.write(one, one));
    }
    x.type(20);
    x.end(0);
    x.write(0, 1);
    due("the tape", x.count(4), 0);
    for (int[] p : new int[][] {{0, 1}, {0, 2}, {2, 0}, {0, 3}, {3, 0}}) refused("write of an empty tape", x, BAD, y -> y.write(p[0], p[1]));
    x.forge(0, 5);
    refused("write of an empty tape to a forged one", x, BAD, y -> y.write(2, 0));
    x.type(1);
    due("write of one byte", x.write(0, 1), x.count(0) - 1);
  }

  private static void writeNone() {
    Post x = busy();
    for (int u = 0; u < 3; u++) {
      int one = u;
      refused("write(" + u + ", 3)", x, NONE, y -> y.write(one, 3));
      refused("write(3, " + u + ")", x, NONE, y -> y.write(3, one));
    }
    for (int i = x.count(0); i < 80; i++) x.copy(0);
    refused("write to none REGISTERED of 80", x, NONE, y -> y.write(0, 3));
    Post z = busy();
    z.register(3);
    due("write(0, 3)", z.write(0, 3), 7);
  }

  private static void writeEighty() {
    for (int copies : new int[] {0, 1, 40, 78}) {
      Post x = Post.registered(2, 31);
      for (int i = copies; i < 79; i++) x.send(0, 1, 20);
      for (int i = 0; i < copies; i++) x.copy(0);
      x.feed(1, 2, 3, 4, 5);
      Post z = x.twin();
      due("copy of 79", z.copy(0), 79);
      refused("write of 80, the last a copy", z, FULL, y -> y.write(0, 1));
      due("write of 79", x.write(0, 1), 79);
      due("written", x.count(0), 80);
      refused("write of 80 and of an empty tape", x, BAD, y -> y.write(0, 1));
      x.feed(1, 2, 3, 4, 5);
      refused("write of 80", x, FULL, y -> y.write(0, 1));
      refused("write of 80 that would begin", x, FULL, y -> y.write(1, 0));
    }
    Post x = Post.registered(2, 32);
    x.publish(1, 2);
    x.send(1, 0, 1);
    for (int i = 1; i < 80; i++) x.copy(0);
    x.forge(1, 5);
    x.type(3);
    refused("write of 80 with a SEAL that is not RIGHT", x, FULL, y -> y.write(0, 1));
  }

  private static void writeHundred() {
    Post x = Post.registered(3, 33);
    x.publish(0, 2);
    for (int i = 0; i < 99; i++) x.begin(i % 2, 2);
    x.type(3);
    Post z = x.twin();
    due("write that begins of 99", z.write(1, 0), 0);
    z.type(3);
    refused("write that would begin of 100", z, FULL, y -> y.write(0, 1));
    due("write in a session of 100", z.write(1, 0), 1);
    due("begin of 99", x.begin(0, 2), 1);
    refused("write that would begin of 100", x, FULL, y -> y.write(1, 0));
    x.forge(0, 5);
    refused("and with a SEAL that is not RIGHT", x, FULL, y -> y.write(1, 0));
    due("write in a session of 100", x.write(1, 2), 0);
    due("come", x.come(0, 2), 3);
    due("an answer", x.come(x.send(2, 1, 4), 1), 4);
    x.forget(1, 2);
    x.type(3);
    refused("write behind forget of 100", x, FULL, y -> y.write(1, 2));
  }

  private static void writeSeal() {
    Post x = Post.registered(2, 34);
    long lent = x.number(1, 1);
    x.type(3);
    for (long number : new long[] {1, 2, lent - 1, lent + 1, LAST}) {
      x.forge(1, number);
      refused("write to a forged one without ONCE keys", x, SEAL, y -> y.write(0, 1));
    }
    x.publish(1, 3);
    for (int there = 2; there >= 0; there--) {
      String before = x.stateWithoutOnce(1);
      due("write to a forged one", x.write(0, 1), SEAL);
      due("the tape", x.count(4), 3);
      due("ONCE keys there", x.user(1, 2), there);
      due("the least", x.user(1, 3), there == 0 ? 0 : 4 - there);
      due("SECRETS of ONCE keys", x.user(1, 6), 3);
      due("numbers drawn by who writes", x.user(0, 5), 3);
      due("sessions", x.sessions(0, 1), 0);
      due("letters", x.count(0), 0);
      holds("only the ONCE key is gone", x.stateWithoutOnce(1).equals(before));
    }
    refused("write to a forged one, the ONCE keys are gone", x, SEAL, y -> y.write(0, 1));
    x.forge(1, lent);
    due("write with a RIGHT SEAL", x.write(0, 1), 0);
    due("no ONCE key was there", x.bytesOf(0, 21, 2), 0);
    x.forge(1, 5);
    due("a letter in a session asks no SEAL", x.send(0, 1, 1), 1);
    // A SEAL that is not RIGHT has BEGUN nothing: 100 are still BEGUN behind it.
    Post z = Post.registered(2, 34);
    z.forge(1, 5);
    z.type(1);
    for (int i = 0; i < 3; i++) due("write", z.write(0, 1), SEAL);
    z.forge(1, lent);
    for (int i = 0; i < 99; i++) due("begin", z.begin(0, 1), 1);
    z.forget(0, 1);
    due("the hundredth", z.write(0, 1), 0);
    due("and no more", z.begin(0, 1), FULL);
  }

  private static void writeTape() {
    for (int many : new int[] {1, 2, 19, 20, 21, 39, 40}) {
      Post x = Post.registered(2, 35);
      x.type(many);
      due("write of " + many, x.write(0, 1), 0);
      due("the tape", x.count(4), 0);
      due("the TEXT's length", x.letter(0, 35), many);
      due("bytes", x.letter(0, -1), 44 + many);
      due("come", x.come(0, 1), many);
      for (int i = 0; i < many; i++) due("byte " + i, x.byteOf(i), i + 1);
    }
  }

  private static void beginBad() {
    Post x = busy();
    for (int u : NO_USERS) {
      refused("begin(" + u + ", 0)", x, BAD, y -> y.begin(u, 0));
      refused("begin(0, " + u + ")", x, BAD, y -> y.begin(0, u));
      refused("begin(3, " + u + ") of none REGISTERED", x, BAD, y -> y.begin(3, u));
    }
    for (int u = 0; u < 4; u++) {
      int one = u;
      refused("begin(" + u + ", " + u + ")", x, BAD, y -> y.begin(one, one));
    }
    for (int u = 0; u < 3; u++) {
      int one = u;
      refused("begin(" + u + ", 3)", x, NONE, y -> y.begin(one, 3));
      refused("begin(3, " + u + ")", x, NONE, y -> y.begin(3, one));
    }
    due("begin needs no tape", Post.registered(2, 1).begin(0, 1), 1);
    due("and leaves it", x.begin(0, 1) * 10 + x.count(4), 17);
  }

  private static void beginHundred() {
    Post x = new Post(4, 36);
    for (int u = 0; u < 3; u++) x.register(u);
    x.publish(1, 5);
    x.type(2);
    due("one is BEGUN by write", x.write(0, 1), 0);
    for (int i = 1; i < 100; i++) due("begin of " + i, x.begin(i % 3, (i + 1) % 3), 1);
    refused("begin of 100", x, FULL, y -> y.begin(0, 1));
    refused("begin of 100 by another one", x, FULL, y -> y.begin(2, 1));
    refused("begin with none REGISTERED of 100", x, NONE, y -> y.begin(0, 3));
    refused("begin with itself of 100", x, BAD, y -> y.begin(0, 0));
    x.publish(1, 2);
    x.forge(1, 5);
    refused("begin of 100 with a forged one", x, FULL, y -> y.begin(0, 1));
    x.forget(0, 1);
    refused("begin behind forget of 100", x, FULL, y -> y.begin(0, 1));
    Post z = Post.registered(2, 36);
    z.feedAndWrite(0, 1);
    for (int i = 1; i < 80; i++) z.copy(0);
    due("begin is not bound by 80 letters", z.begin(0, 1), 1);
  }

  private static void beginSeal() {
    Post x = Post.registered(2, 37);
    long lent = x.number(1, 1);
    x.begin(0, 1);
    x.publish(1, 1);
    x.forge(1, lent == 1 ? 2 : 1);
    long own = x.inside(0, 1, 0, 3);
    due("begin with a forged one", x.begin(0, 1), SEAL);
    due("ONCE keys there", x.user(1, 2), 0);
    due("SECRETS of ONCE keys", x.user(1, 6), 1);
    due("numbers drawn", x.user(0, 5), 5);
    due("sessions", x.sessions(0, 1), 1);
    due("the first one", x.inside(0, 1, 0, 3), own);
    refused("begin with a forged one without ONCE keys", x, SEAL, y -> y.begin(0, 1));
    due("the other way", x.begin(1, 0), 1);
    x.forge(1, lent);
    due("begin with a RIGHT SEAL", x.begin(0, 1), 1);
    x.forge(1, LAST);
    due("begin with a forged one", x.begin(0, 1), SEAL);
    x.rotate(1);
    due("begin with another LENT key", x.begin(0, 1), 1);
    Post z = Post.registered(2, 37);
    z.forge(1, 5);
    for (int i = 0; i < 5; i++) due("begin with a forged one", z.begin(0, 1), SEAL);
    z.forge(1, lent);
    for (int i = 0; i < 100; i++) due("begin of " + i, z.begin(0, 1), 1);
    due("begin of 100", z.begin(0, 1), FULL);
  }

  private static void forget() {
    Post x = busy();
    for (int u : NO_USERS) {
      refused("forget(" + u + ", 0)", x, BAD, y -> y.forget(u, 0));
      refused("forget(0, " + u + ")", x, BAD, y -> y.forget(0, u));
    }
    for (int u = 0; u < 4; u++) {
      int one = u;
      refused("forget(" + u + ", " + u + ")", x, BAD, y -> y.forget(one, one));
    }
    refused("forget of none", x, 0, y -> y.forget(0, 2));
    refused("forget of none REGISTERED", x, 0, y -> y.forget(0, 3));
    due("forget of one", x.forget(0, 1), 1);
    due("the other side has its own", x.sessions(1, 0), 1);
    due("and opens what was written before", x.come(0, 1), 4);
    refused("forget again", x, 0, y -> y.forget(0, 1));
    for (int many = 1; many <= 6; many++) {
      Post z = Post.registered(3, 38);
      z.begin(0, 2);
      for (int i = 0; i < many; i++) z.begin(0, 1);
      due("forget of " + many, z.forget(0, 1), Math.min(many, 4));
      due("there", z.sessions(0, 1), 0);
      due("no such SESSION", z.session(0, 1, 0, 0), BAD);
      due("in all", z.user(0, 7), 1);
      due("with the other one", z.sessions(0, 2), 1);
    }
  }

  private static void come() {
    Post x = busy();
    int many = x.count(0);
    for (int u : NO_USERS) {
      refused("come(0, " + u + ")", x, BAD, y -> y.come(0, u));
      refused("come(-1, " + u + ")", x, BAD, y -> y.come(-1, u));
    }
    for (int l : new int[] {MIN, -2, -1, many, many + 1, 79, 80, MAX}) {
      for (int u = 0; u < 4; u++) {
        int to = u;
        refused("come(" + l + ", " + u + ")", x, BAD, y -> y.come(l, to));
      }
    }
    due("the last letter", x.come(many - 1, 1), 5);
    due("the first letter", x.come(0, 1), 4);
  }

  private static void comeReading() {
    Post x = busy();
    due("READING", x.count(3), 6);
    fault("to another one", x, 0, 2, 1);
    fault("again", x, 2, 1, 6);
    due("come", x.come(0, 1), 4);
    due("READING", x.count(3), 4);
    for (int i = 0; i < 4; i++) due("byte " + i, x.byteOf(i), i + 1);
    due("come", x.come(4, 1), 9);
    for (int i = 0; i < 9; i++) due("byte " + i, x.byteOf(i), i + 1);
  }

  private static void byteOf() {
    Post x = Post.registered(2, 39);
    for (int i : new int[] {MIN, -1, 0, 1, MAX}) due("byteOf(" + i + ") of no READING", x.byteOf(i), BAD);
    int shorter = x.send(0, 1, 1), longer = x.send(0, 1, 40);
    due("come", x.come(longer, 1), 40);
    for (int i : new int[] {MIN, -1, 40, 41, MAX}) due("byteOf(" + i + ") of 40", x.byteOf(i), BAD);
    for (int i = 0; i < 40; i++) due("byteOf(" + i + ") of 40", x.byteOf(i), i + 1);
    due("come", x.come(shorter, 1), 1);
    due("byteOf(0) of 1", x.byteOf(0), 1);
    for (int i : new int[] {MIN, -1, 1, 2, 39, 40, MAX}) due("byteOf(" + i + ") of 1", x.byteOf(i), BAD);
  }

  private static void copy() {
    Post x = busy();
    int many = x.count(0);
    for (int l : new int[] {MIN, -2, -1, many, many + 1, 80, MAX}) refused("copy(" + l + ")", x, BAD, y -> y.copy(l));
    due("copy(0)", x.copy(0), many);
    due("copy of the last", x.copy(many), many + 1);
    for (int i = many + 2; i < 80; i++) due("copy", x.copy(0), i);
    due("copies", x.count(1), 1 + 80 - many);
    refused("copy of 80", x, FULL, y -> y.copy(0));
    refused("copy(79) of 80", x, FULL, y -> y.copy(79));
    refused("copy(80) of 80", x, BAD, y -> y.copy(80));
    refused("copy(-1) of 80", x, BAD, y -> y.copy(-1));
  }

  private static void spoil() {
    Post x = busy();
    int many = x.count(0), size = x.letter(0, -1);
    for (int l : new int[] {MIN, -1, many, many + 1, MAX}) refused("spoil(" + l + ", 0, 1)", x, BAD, y -> y.spoil(l, 0, 1));
    for (int place : new int[] {MIN, -2, -1, size, size + 1, MAX}) refused("spoil(0, " + place + ", 1)", x, BAD, y -> y.spoil(0, place, 1));
    for (int mask : new int[] {MIN, -255, -1, 0, 256, 257, 511, MAX}) refused("spoil(0, 0, " + mask + ")", x, BAD, y -> y.spoil(0, 0, mask));
    for (int place : new int[] {0, 1, size - 2, size - 1}) {
      for (int mask : new int[] {1, 2, 128, 254, 255}) {
        int was = x.letter(0, place);
        due("spoil", x.spoil(0, place, mask), was ^ mask);
        due("letter", x.letter(0, place), was ^ mask);
      }
    }
    due("the last letter's last byte", x.spoil(many - 1, x.letter(many - 1, -1) - 1, 255) >= 0 ? 1 : 0, 1);
    Post z = Post.registered(2, 40);
    refused("spoil without letters", z, BAD, y -> y.spoil(0, 0, 1));
  }

  private static void letter() {
    Post x = busy();
    int many = x.count(0);
    for (int l : new int[] {MIN, -2, -1, many, many + 1, 80, MAX}) {
      for (int place : new int[] {-1, 0}) due("letter(" + l + ", " + place + ")", x.letter(l, place), BAD);
    }
    for (int l = 0; l < many; l++) {
      int size = x.letter(l, -1);
      due("how many letter " + l + " has", size, 24 + (x.letter(l, 0) == 1 ? 20 : 0) + x.letter(l, x.letter(l, 0) == 1 ? 35 : 15));
      for (int place : new int[] {MIN, -3, -2, size, size + 1, MAX}) due("letter(" + l + ", " + place + ")", x.letter(l, place), BAD);
      for (int place : new int[] {0, size - 1}) holds("letter(" + l + ", " + place + ")", x.letter(l, place) >= 0 && x.letter(l, place) < 256);
    }
  }

  private static void forge() {
    Post x = busy();
    for (int u : NO_USERS) refused("forge(" + u + ", 5)", x, BAD, y -> y.forge(u, 5));
    for (long number : new long[] {1, 5, LAST}) refused("forge(3, " + number + ")", x, BAD, y -> y.forge(3, number));
    for (long number : new long[] {Long.MIN_VALUE, -LAST, -2, -1, 0, LAST + 1, LAST + 2, LAST + 3, 1L << 62, Long.MAX_VALUE}) {
      refused("forge(1, " + number + ")", x, BAD, y -> y.forge(1, number));
    }
    for (long number : new long[] {1, 2, LAST - 1, LAST}) {
      due("forge(1, " + number + ")", x.forge(1, number), 1);
      due("LENT", x.number(1, 1), number);
    }
    due("its SEAL stays", x.number(1, 2), Post.registered(4, 77).number(1, 2));
    due("its SEAL stays", x.number(1, 3), Post.registered(4, 77).number(1, 3));
  }

  private static void user() {
    Post x = busy();
    for (int u : NO_USERS) for (int what = -1; what <= 8; what++) due("user(" + u + ", " + what + ")", x.user(u, what), BAD);
    for (int u = 0; u < 4; u++) {
      for (int what : new int[] {MIN, -2, -1, 8, 9, MAX}) due("user(" + u + ", " + what + ")", x.user(u, what), BAD);
    }
    int[][] want = {{1, 1, 1, 1, 1, 6, 1, 1}, {1, 1, 1, 3, 3, 9, 2, 2}, {1, 1, 0, 0, 0, 5, 0, 1}, {0, 0, 0, 0, 0, 0, 0, 0}};
    for (int u = 0; u < 4; u++) for (int what = 0; what < 8; what++) due("user(" + u + ", " + what + ")", x.user(u, what), want[u][what]);
  }

  private static void userLeast() {
    Post x = Post.registered(2, 41);
    due("of none", x.user(1, 3), 0);
    x.publish(1, 2);
    for (int least : new int[] {1, 2, 0, 0}) {
      due("the least one's number", x.user(1, 3), least);
      due("the least one's PUBLIC number", x.number(1, 4), least == 0 ? 0 : open(secret(42, 3 + least)));
      x.begin(0, 1);
    }
    x.publish(1, 1);
    due("the least one's number", x.user(1, 3), 3);
  }

  private static void number() {
    Post x = busy();
    for (int u : NO_USERS) for (int what = -1; what <= 5; what++) due("number(" + u + ", " + what + ")", x.number(u, what), 0);
    for (int u = 0; u < 3; u++) {
      for (int what : new int[] {MIN, -2, -1, 5, 6, MAX}) due("number(" + u + ", " + what + ")", x.number(u, what), 0);
      for (int what = 0; what < 4; what++) holds("number(" + u + ", " + what + ")", x.number(u, what) != 0);
      due("number(" + u + ", 4)", x.number(u, 4) == 0 ? 0 : 1, u == 2 ? 0 : 1);
    }
    for (int what = 0; what < 5; what++) due("number(3, " + what + ") of none REGISTERED", x.number(3, what), 0);
  }

  private static void session() {
    Post x = busy();
    for (int u : NO_USERS) {
      for (int i : new int[] {-1, 0}) {
        due("session(" + u + ", 0, " + i + ", 0)", x.session(u, 0, i, 0), BAD);
        due("session(0, " + u + ", " + i + ", 0)", x.session(0, u, i, 0), BAD);
      }
    }
    due("with itself", x.session(1, 1, 0, 0), BAD);
    for (int what : new int[] {MIN, -1, 1, 2, 7, 8, MAX}) due("session(0, 1, -1, " + what + ")", x.session(0, 1, -1, what), BAD);
    for (int what : new int[] {MIN, -1, 8, 9, MAX}) due("session(0, 1, 0, " + what + ")", x.session(0, 1, 0, what), BAD);
    for (int i : new int[] {MIN, -3, -2, 1, 2, 3, 4, 5, MAX}) {
      for (int what = 0; what < 8; what++) due("session(0, 1, " + i + ", " + what + ")", x.session(0, 1, i, what), BAD);
    }
    for (int what = 0; what < 8; what++) {
      holds("session(0, 1, 0, " + what + ")", x.session(0, 1, 0, what) >= 0);
      due("session(0, 3, 0, " + what + ") of none", x.session(0, 3, 0, what), BAD);
    }
    due("of none REGISTERED", x.sessions(0, 3), 0);
    due("of none REGISTERED", x.sessions(3, 0), 0);
    for (int many = 1; many <= 5; many++) {
      x.begin(0, 2);
      due("how many", x.sessions(0, 2), Math.min(4, many));
      for (int i = 0; i < 6; i++) due("session(0, 2, " + i + ", 5)", x.session(0, 2, i, 5), i < Math.min(4, many) ? 1 : BAD);
    }
  }

  private static void inside() {
    Post x = busy();
    for (int u : NO_USERS) {
      due("inside(" + u + ", 0, 0, 0)", x.inside(u, 0, 0, 0), 0);
      due("inside(0, " + u + ", 0, 0)", x.inside(0, u, 0, 0), 0);
    }
    for (int what = 0; what < 5; what++) {
      due("with itself", x.inside(1, 1, 0, what), 0);
      due("of none", x.inside(0, 2, 0, what), 0);
      for (int i : new int[] {MIN, -1, 1, 2, 4, MAX}) due("inside(0, 1, " + i + ", " + what + ")", x.inside(0, 1, i, what), 0);
      due("inside(0, 1, 0, " + what + ")", x.inside(0, 1, 0, what) == 0 ? 0 : 1, what == 2 ? 0 : 1);
      holds("inside(1, 0, 0, " + what + ")", x.inside(1, 0, 0, what) != 0);
    }
    for (int what : new int[] {MIN, -1, 5, 6, MAX}) due("inside(0, 1, 0, " + what + ")", x.inside(0, 1, 0, what), 0);
  }

  private static void same() {
    Post x = busy();
    for (int u : NO_USERS) {
      due("same(" + u + ", 0, 0, 0)", x.same(u, 0, 0, 0), BAD);
      due("same(0, " + u + ", 0, 0)", x.same(0, u, 0, 0), BAD);
    }
    for (int u = 0; u < 4; u++) due("with itself", x.same(u, u, 0, 0), BAD);
    for (int i : new int[] {MIN, -1, 1, 2, 4, MAX}) {
      due("same(0, 1, " + i + ", 0)", x.same(0, 1, i, 0), BAD);
      due("same(0, 1, 0, " + i + ")", x.same(0, 1, 0, i), BAD);
      due("same(0, 1, " + i + ", " + i + ")", x.same(0, 1, i, i), BAD);
    }
    due("same(0, 1, 0, 0)", x.same(0, 1, 0, 0), 1);
    due("same(1, 2, 0, 0)", x.same(1, 2, 0, 0), 0);
    due("none at one side", x.same(0, 2, 0, 0), BAD);
    x.forget(1, 0);
    due("none at the other side", x.same(0, 1, 0, 0), BAD);
    due("none at this side", x.same(1, 0, 0, 0), BAD);
  }

  private static void look() {
    Post x = busy();
    for (int u : NO_USERS) refused("look(" + u + ")", x, BAD, y -> y.look(u));
    due("look(0)", x.look(0), 2);
    due("look(3) of none REGISTERED", x.look(3), 3);
    due("LOOKS", x.count(2), 3);
    due("look(0) again", x.look(0), 4);
  }

  private static void readable() {
    Post x = busy();
    int many = x.count(0);
    for (int l : new int[] {MIN, -2, -1, many, many + 1, 79, 80, MAX}) due("readable(" + l + ")", x.readable(l), BAD);
    for (int l = 0; l < many; l++) holds("readable(" + l + ")", x.readable(l) == 0 || x.readable(l) == 1);
    due("without letters", Post.registered(2, 1).readable(0), BAD);
  }

  private static void count() {
    Post x = busy();
    for (int what : new int[] {MIN, -2, -1, 5, 6, MAX}) due("count(" + what + ")", x.count(what), BAD);
    int[] want = {7, 1, 1, 6, 7};
    for (int what = 0; what < 5; what++) due("count(" + what + ")", x.count(what), want[what]);
  }

  private static void toldChangesNothing() {
    Post x = busy();
    for (int what = -1; what <= 8; what++) {
      int one = what;
      refused("user", x, x.user(1, one), y -> y.askAsChange(o -> o.user(1, one)));
      refused("number", x, x.number(1, one), y -> y.askAsChange(o -> o.number(1, one)));
      refused("session", x, x.session(1, 0, 0, one), y -> y.askAsChange(o -> o.session(1, 0, 0, one)));
      refused("inside", x, x.inside(1, 0, 0, one), y -> y.askAsChange(o -> o.inside(1, 0, 0, one)));
      refused("same", x, x.same(1, 0, 0, one), y -> y.askAsChange(o -> o.same(1, 0, 0, one)));
      refused("readable", x, x.readable(one), y -> y.askAsChange(o -> o.readable(one)));
      refused("count", x, x.count(one), y -> y.askAsChange(o -> o.count(one)));
      refused("letter", x, x.letter(0, one), y -> y.askAsChange(o -> o.letter(0, one)));
      refused("byteOf", x, x.byteOf(one), y -> y.askAsChange(o -> o.byteOf(one)));
    }
  }
}
