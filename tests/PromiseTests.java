import java.math.BigInteger;

/** For each promise of the document: ordinary inputs, the edges that it names, and wrong inputs. */
public final class PromiseTests extends Check {
  public static void main(String[] args) {
    of("promise 1"); newObject();
    of("promise 2"); feed();
    of("promise 3"); end();
    of("promise 4"); register();
    of("promise 5"); publish();
    of("promise 6"); rotate();
    of("promise 7"); write(); writeBytes(); writeFull();
    of("promise 8"); begin(); beginRow();
    of("promise 9"); forget();
    of("promise 10"); come(); comeFaults(); comeBeginningFaults(); comeSkipped(); comeTurned(); comeOrder(); comeWithoutChain(); comeAsAnotherKind();
    of("promise 11"); byteOf();
    of("promise 12"); copy();
    of("promise 13"); spoil();
    of("promise 14"); letter();
    of("promise 15"); forge();
    of("promise 16"); user();
    of("promise 17"); number();
    of("promise 18"); session();
    of("promise 19"); inside();
    of("promise 20"); same();
    of("promise 21"); look();
    of("promise 22"); readable(); readableOnce(); readableHeals(); readableKept(); readableLent(); readableForged(); readableSpoiltHead(); readableSpoiltBeginning(); readableSpoiltKept(); readableOtherBytes(); readableDrawnLater(); readableAnswerDrawnLater(); readableOwnDrawnLater(); readableSameValue();
    of("promise 23"); count();
    end("all promises are kept");
  }

  // ---- what the tests have in common

  /** A letter that must be refused, with nothing changed by it. */
  private static void refused(Post x, int letter, int u, int want) {
    fault("refused", x, letter, u, -10 - want);
  }

  // ---- the promises

  private static void newObject() {
    int[][] users = {{Integer.MIN_VALUE, 2}, {-1, 2}, {0, 2}, {1, 2}, {2, 2}, {3, 3}, {6, 6}, {7, 6}, {Integer.MAX_VALUE, 6}};
    for (int[] row : users) {
      Post x = new Post(row[0], 9);
      due("users of n = " + row[0], x.user(row[1] - 1, 0), 0);
      due("no more users of n = " + row[0], x.user(row[1], 0), BAD);
    }
    for (int seed : new int[] {0, 5, -1, -2, Integer.MIN_VALUE, Integer.MAX_VALUE}) {
      Post x = Post.registered(3, seed);
      for (int u = 0; u < 3; u++) due("SEED " + seed + " and " + u, x.number(u, 0), open(secret((long) seed + u, 1)));
    }
    Post x = new Post(4, 1);
    for (int what = 0; what < 5; what++) due("count of a new one", x.count(what), 0);
    for (int what = 0; what < 8; what++) due("user of a new one", x.user(3, what), 0);
    for (int what = 0; what < 5; what++) due("number of a new one", x.number(3, what), 0);
    due("sessions of a new one", x.session(0, 1, -1, 0), 0);
    due("letter of a new one", x.letter(0, -1), BAD);
  }

  private static void feed() {
    Post x = Post.registered(2, 3);
    due("feed", x.feed(0x01020304, -1, 0x80000000, 0x7F00FF01, 9), 20);
    due("feed", x.feed(0x11121314, 0, 0, 0, 0x21222324), 40);
    due("feed above 40", x.feed(1, 1, 1, 1, 1), FULL);
    due("tape after FULL", x.count(4), 40);
    x.come(x.write(0, 1), 1);
    int[] want = {1, 2, 3, 4, 255, 255, 255, 255, 128, 0, 0, 0, 127, 0, 255, 1, 0, 0, 0, 9, 0x11, 0x12, 0x13, 0x14};
    for (int i = 0; i < want.length; i++) due("byte " + i, x.byteOf(i), want[i]);
    for (int i = 0; i < 4; i++) due("byte " + (36 + i), x.byteOf(36 + i), 0x21 + i);
    due("feed behind an empty tape", x.feed(1, 1, 1, 1, 1), 20);
    due("end", x.end(1), 1);
    due("feed behind one", x.feed(1, 1, 1, 1, 1), 21);
    due("feed to 41", x.feed(1, 1, 1, 1, 1), FULL);
  }

  private static void end() {
    Post x = Post.registered(2, 3);
    due("end of an empty tape", x.end(0), BAD);
    x.type(20);
    due("end(-1)", x.end(-1), BAD);
    due("end(21)", x.end(21), BAD);
    due("end(20)", x.end(20), 20);
    due("end(19)", x.end(19), 19);
    due("end of nineteen", x.end(0), BAD);
    x.feed(Post.four(101), Post.four(105), Post.four(109), Post.four(113), Post.four(117));
    due("end of 39", x.end(3), 22);
    due("end of 22", x.end(1), 3);
    x.come(x.write(0, 1), 1);
    due("length", x.count(3), 3);
    for (int i = 0; i < 3; i++) due("byte", x.byteOf(i), i + 1);
    x.type(20);
    due("end(0)", x.end(0), 0);
    due("write of nothing", x.write(0, 1), BAD);
  }

  private static void register() {
    Post x = new Post(2, 40);
    due("register(-1)", x.register(-1), BAD);
    due("register(2)", x.register(2), BAD);
    due("register(1)", x.register(1), 1);
    String before = x.state();
    due("register(1) again", x.register(1), 0);
    due("nothing happens then", x.state().equals(before) ? 1 : 0, 1);
    due("numbers drawn", x.user(1, 5), 3);
    due("LENT key", x.user(1, 1), 1);
    due("IDENTITY", x.number(1, 0), open(secret(41, 1)));
    due("LENT", x.number(1, 1), open(secret(41, 2)));
    due("R", x.number(1, 2), open(secret(41, 3)));
    due("t", x.number(1, 3), proof(41, 3, x.number(1, 1)));
    due("another one has not", x.user(0, 0), 0);
  }

  private static void publish() {
    Post x = new Post(2, 50);
    due("publish(0, 1) of none REGISTERED", x.publish(0, 1), NONE);
    due("publish(0, 0)", x.publish(0, 0), BAD);
    due("publish(0, 13)", x.publish(0, 13), BAD);
    due("publish(-1, 1)", x.publish(-1, 1), BAD);
    due("publish(2, 1)", x.publish(2, 1), BAD);
    x.register(0);
    x.register(1);
    due("publish(1, 5)", x.publish(1, 5), 5);
    due("least", x.number(1, 4), open(secret(51, 4)));
    due("publish(1, 8)", x.publish(1, 8), FULL);
    due("numbers drawn", x.user(1, 5), 8);
    due("publish(1, 7)", x.publish(1, 7), 12);
    due("publish(1, 1)", x.publish(1, 1), FULL);
    for (int i = 0; i < 48; i++) {
      x.begin(0, 1);
      due("publish(1, 1)", x.publish(1, 1), 12);
    }
    due("made", x.user(1, 4), 60);
    x.begin(0, 1);
    due("publish above 60", x.publish(1, 1), FULL);
    due("there", x.user(1, 2), 11);
    due("least", x.user(1, 3), 50);
    due("least", x.number(1, 4), open(secret(51, 53)));
    Post y = Post.registered(2, 5);
    for (int i = 0; i < 5; i++) {
      due("publish(1, 11)", y.publish(1, 11), 11);
      for (int k = 0; k < 11; k++) y.begin(0, 1);
    }
    due("publish(1, 6) of 55", y.publish(1, 6), FULL);
    due("publish(1, 5) of 55", y.publish(1, 5), 5);
    due("SECRETS of 60", y.user(1, 6), 60);
    for (int k = 0; k < 5; k++) y.begin(0, 1);
    due("ONCE key 60", y.bytesOf(y.send(0, 1, 1), 21, 2), 60);
    due("come", y.come(0, 1), 1);
    due("SECRETS of 59", y.user(1, 6), 59);
  }

  private static void rotate() {
    Post x = new Post(2, 60);
    due("rotate(-1)", x.rotate(-1), BAD);
    due("rotate(2)", x.rotate(2), BAD);
    due("rotate(1)", x.rotate(1), NONE);
    x.register(1);
    due("rotate(1)", x.rotate(1), 2);
    due("LENT", x.number(1, 1), open(secret(61, 4)));
    due("R", x.number(1, 2), open(secret(61, 5)));
    due("t", x.number(1, 3), proof(61, 5, x.number(1, 1)));
    for (int k = 3; k <= 20; k++) due("rotate(1)", x.rotate(1), k);
    due("rotate(1) of 20", x.rotate(1), FULL);
    due("LENT key", x.user(1, 1), 20);
    due("numbers drawn", x.user(1, 5), 41);
    x.register(0);
    x.forge(1, 5);
    due("begin with a forged one", x.begin(0, 1), SEAL);
    Post y = Post.registered(2, 60);
    y.forge(1, 5);
    y.rotate(1);
    due("begin behind rotate", y.begin(0, 1), 1);
  }

  private static void write() {
    Post x = new Post(2, 70);
    x.type(40);
    for (int[] p : new int[][] {{-1, 0}, {0, -1}, {2, 0}, {0, 2}, {0, 0}, {1, 1}}) due("write(" + p[0] + ", " + p[1] + ")", x.write(p[0], p[1]), BAD);
    due("write", x.write(0, 1), NONE);
    x.register(0);
    due("write", x.write(0, 1), NONE);
    due("write", x.write(1, 0), NONE);
    due("tape", x.count(4), 40);
    x.register(1);
    x.publish(1, 2);
    long right = x.number(1, 1);
    x.forge(1, right == 7 ? 8 : 7);
    due("write with a wrong SEAL", x.write(0, 1), SEAL);
    due("tape", x.count(4), 40);
    due("ONCE keys there", x.user(1, 2), 1);
    due("ONCE SECRETS", x.user(1, 6), 2);
    due("numbers drawn", x.user(0, 5), 3);
    due("sessions", x.session(0, 1, -1, 0), 0);
    x.forge(1, right);
    due("write", x.write(0, 1), 0);
    due("tape", x.count(4), 0);
    due("ONCE keys there", x.user(1, 2), 0);
    due("numbers drawn", x.user(0, 5), 5);
    due("write of an empty tape", x.write(0, 1), BAD);
    x.forge(1, 7);
    due("write in the first session asks no SEAL", x.send(0, 1, 1), 1);
    due("sessions", x.session(0, 1, -1, 0), 1);
  }

  private static void writeBytes() {
    Post x = Post.registered(2, 80);
    x.publish(1, 3);
    x.begin(0, 1);
    int l = x.send(0, 1, 3);
    BigInteger identity = secret(80, 1), e = secret(80, 4), lent = secret(81, 2), once = secret(81, 4);
    // The first BUNDLE took ONCE key 1, and there is a session: so it is that session's letter.
    long root = sum(common(identity, open(lent)), common(e, x.number(1, 0)), common(e, open(lent)), common(e, open(once)));
    BigInteger pair = secret(80, 5);
    long turned = common(pair, open(lent));
    due("ROOT", x.inside(0, 1, 0, 0), key(1, root, turned));
    long chain = key(2, root, turned);
    long k = key(3, chain, 0);
    due("SENDING", x.inside(0, 1, 0, 1), key(4, chain, 0));
    due("length", x.letter(l, -1), 3 + 20 + 12 + 1 + 3 + 8);
    due("kind, from, to", x.bytesOf(l, 0, 3), 1 << 16 | 1);
    due("IDENTITY", x.bytesOf(l, 3, 8), open(identity));
    due("e", x.bytesOf(l, 11, 8), open(e));
    due("LENT, ONCE", x.bytesOf(l, 19, 4), 1 << 16 | 1);
    due("HEAD", x.bytesOf(l, 23, 8), open(pair));
    due("PN, NS", x.bytesOf(l, 31, 4), 0);
    due("TEXT's length", x.letter(l, 35), 3);
    for (int i = 0; i < 3; i++) due("TEXT", x.letter(l, 36 + i), i + 1 ^ (int) (key(5, k, i) & 255));
    long[] before = new long[39];
    for (int i = 0; i < 39; i++) before[i] = x.letter(l, i);
    due("TAG", x.bytesOf(l, 39, 8), key(6, k, sum(before)));
    due("the next letter's NS", x.bytesOf(x.send(0, 1, 40), 33, 2), 1);
    due("a long letter", x.letter(1, -1), 84);
    x.come(l, 1);
    int answer = x.send(1, 0, 1);
    due("an answer has no BEGINNING", x.letter(answer, 0), 2);
    due("length", x.letter(answer, -1), 3 + 12 + 1 + 1 + 8);
    x.come(answer, 0);
    int third = x.send(0, 1, 1);
    due("nor has a letter behind it", x.letter(third, 0), 2);
    due("PN, NS", x.bytesOf(third, 11, 4), 2 << 16);
  }

  private static void writeFull() {
    Post x = Post.registered(2, 90);
    for (int i = 0; i < 40; i++) due("write", x.send(0, 1, 1), i);
    for (int i = 40; i < 80; i++) due("copy", x.copy(3), i);
    due("write of 80", x.send(0, 1, 1), FULL);
    due("tape", x.count(4), 1);
    due("NS", x.session(0, 1, 0, 0), 40);
    due("begin is not bound by letters", x.begin(0, 1), 1);
    Post y = Post.registered(3, 90);
    for (int i = 0; i < 100; i++) due("begin", y.begin(0, 1), 1);
    y.publish(0, 1);
    due("write that would begin", y.send(1, 0, 1), FULL);
    due("ONCE keys there", y.user(0, 2), 1);
    due("numbers drawn", y.user(1, 5), 3);
    due("write in a session", y.write(0, 1), 0);
  }

  private static void begin() {
    Post x = new Post(3, 100);
    for (int[] p : new int[][] {{-1, 0}, {0, -1}, {3, 0}, {0, 3}, {0, 0}, {2, 2}}) due("begin(" + p[0] + ", " + p[1] + ")", x.begin(p[0], p[1]), BAD);
    due("begin", x.begin(0, 1), NONE);
    x.register(0);
    due("begin", x.begin(0, 1), NONE);
    due("begin", x.begin(1, 0), NONE);
    x.register(1);
    due("begin", x.begin(0, 1), 1);
    due("begin", x.begin(1, 0), 1);
    x.publish(0, 1);
    x.forge(0, 99);
    due("begin", x.begin(1, 0), SEAL);
    due("ONCE key", x.user(0, 2), 0);
    due("numbers drawn", x.user(1, 5), 5);
    for (int i = 2; i < 100; i++) due("begin", x.begin(0, 1), 1);
    due("begin of 100", x.begin(0, 1), FULL);
    x.publish(1, 1);
    due("begin of 100", x.begin(0, 1), FULL);
    due("ONCE keys there", x.user(1, 2), 1);
    x.forge(1, 99);
    due("FULL before the SEAL", x.begin(0, 1), FULL);
  }

  private static void beginRow() {
    Post x = Post.registered(3, 101);
    long[] own = new long[5];
    for (int i = 0; i < 5; i++) {
      x.begin(0, 1);
      own[i] = x.inside(0, 1, 0, 3);
      due("sessions", x.session(0, 1, -1, 0), Math.min(4, i + 1));
    }
    for (int i = 0; i < 4; i++) due("own PUBLIC number of " + i, x.inside(0, 1, i, 3), own[4 - i]);
    due("the other side has none", x.session(1, 0, -1, 0), 0);
    due("nor has another row", x.session(0, 2, -1, 0), 0);
    // A letter opened in the last one makes it the first, and the next begun RETIRES the new last one.
    Post y = Post.registered(2, 102);
    int l = y.send(0, 1, 1);
    y.come(l, 1);
    int answer = y.send(1, 0, 1);
    for (int i = 0; i < 3; i++) y.begin(0, 1);
    long last = y.inside(0, 1, 3, 0), second = y.inside(0, 1, 0, 0);
    due("come", y.come(answer, 0), 1);
    due("begun by 0", y.session(0, 1, 0, 7), 1);
    due("the first before is the second", y.inside(0, 1, 1, 0), second);
    due("the last has changed its place", y.inside(0, 1, 3, 0) == last ? 1 : 0, 0);
    y.begin(0, 1);
    due("it is still there", y.session(0, 1, 1, 7), 1);
  }

  private static void forget() {
    Post x = Post.registered(3, 110);
    for (int[] p : new int[][] {{-1, 0}, {0, -1}, {3, 0}, {0, 3}, {0, 0}}) due("forget", x.forget(p[0], p[1]), BAD);
    due("forget of none", x.forget(0, 1), 0);
    x.begin(0, 1);
    x.begin(0, 1);
    x.begin(0, 2);
    x.come(x.send(0, 1, 2), 1);
    due("forget", x.forget(0, 1), 2);
    due("sessions", x.session(0, 1, -1, 0), 0);
    due("in all", x.user(0, 7), 1);
    due("the other side keeps its own", x.session(1, 0, -1, 0), 1);
    due("forget again", x.forget(0, 1), 0);
    due("an answer finds none", x.come(x.send(1, 0, 1), 0), -13);
    due("write begins anew", x.letter(x.send(0, 1, 1), 0), 1);
    due("sessions", x.session(0, 1, -1, 0), 1);
    Post y = new Post(2, 1);
    due("forget of none REGISTERED", y.forget(0, 1), 0);
  }

  private static void come() {
    Post x = Post.registered(2, 120);
    x.publish(1, 1);
    int l = x.send(0, 1, 40);
    due("come(-1, 1)", x.come(-1, 1), BAD);
    due("come(1, 1)", x.come(1, 1), BAD);
    due("come(0, -1)", x.come(l, -1), BAD);
    due("come(0, 2)", x.come(l, 2), BAD);
    due("come", x.come(l, 1), 40);
    for (int i = 0; i < 40; i++) due("READING", x.byteOf(i), i + 1);
    due("ONCE SECRETS", x.user(1, 6), 0);
    due("numbers drawn", x.user(1, 5), 5);
    due("one secret", x.same(0, 1, 0, 0), 1);
    due("chains meet", x.inside(1, 0, 0, 2), x.inside(0, 1, 0, 1));
    due("the other's", x.inside(1, 0, 0, 4), x.inside(0, 1, 0, 3));
    refused(x, l, 1, -16);
    refused(x, l, 0, -11);
    int answer = x.send(1, 0, 2);
    due("an answer", x.come(answer, 0), 2);
    due("its chain", x.inside(0, 1, 0, 2), x.inside(1, 0, 0, 1));
    due("no BEGINNING any more", x.session(0, 1, 0, 4), 0);
    // Of the old chain, whose keys are not KEPT: it would turn, and that has a wrong TAG.
    int next = x.send(0, 1, 3);
    due("come", x.come(next, 1), 3);
    refused(x, l, 1, -14);
  }

  private static void comeFaults() {
    Post x = Post.registered(3, 121);
    int l = x.send(0, 1, 5);
    int[][] spoilt = {{0, 1}, {0, 2}, {0, 3}, {0, 128}, {1, 1}, {1, 7}, {1, 3}, {2, 1}, {2, 3}, {2, 255}, {35, 1}, {35, 5}, {35, 32}};
    for (int[] s : spoilt) {
      x.spoil(l, s[0], s[1]);
      refused(x, l, 1, -11);
      x.spoil(l, s[0], s[1]);
    }
    for (int place : new int[] {3, 10, 11, 18, 23, 30, 31, 32, 36, 40, 41, 48}) {
      x.spoil(l, place, 1);
      refused(x, l, 1, -14);
      x.spoil(l, place, 1);
    }
    x.spoil(l, 34, 10);
    refused(x, l, 1, -14);
    x.spoil(l, 34, 1);
    refused(x, l, 1, -15);
    x.spoil(l, 34, 11);
    due("as it was", x.come(l, 1), 5);
    Post y = new Post(3, 121);
    y.register(0);
    y.register(1);
    int m = y.send(0, 1, 5);
    y.spoil(m, 2, 3);
    refused(y, m, 2, -12);
    y.spoil(m, 2, 3);
    y.come(m, 1);
    int answer = y.send(1, 0, 1);
    y.forget(0, 1);
    refused(y, answer, 0, -13);
  }

  private static void comeBeginningFaults() {
    Post x = Post.registered(3, 122);
    x.publish(1, 3);
    int first = x.send(0, 1, 1);
    x.begin(0, 1);
    int second = x.send(0, 1, 2);
    due("come", x.come(first, 1), 1);
    x.spoil(second, 22, 3);
    refused(x, second, 1, -18);
    x.spoil(second, 22, 3 ^ 2 ^ 60);
    refused(x, second, 1, -18);
    x.overwrite(second, 21, 3, 2);
    refused(x, second, 1, -14);
    x.overwrite(second, 21, 0, 2);
    refused(x, second, 1, -14);
    x.overwrite(second, 21, 2, 2);
    // first's e began a session of user 1 with user 0, so it begins none with user 2 either.
    int bent = x.copy(first);
    x.overwrite(bent, 1, 2, 1);
    refused(x, bent, 1, -19);
    x.overwrite(second, 19, 0, 2);
    refused(x, second, 1, -17);
    x.overwrite(second, 19, 2, 2);
    refused(x, second, 1, -17);
    x.overwrite(second, 19, 1, 2);
    x.rotate(1);
    x.overwrite(first, 11, 12345, 8);
    refused(x, first, 1, -18);
    int last = x.copy(bent);
    x.overwrite(last, 1, 0, 1);
    refused(x, last, 1, -16);
    x.forget(1, 0);
    refused(x, last, 1, -19);
    x.overwrite(last, 19, 2, 2);
    refused(x, last, 1, -18);
    x.overwrite(last, 19, 1, 2);
    due("a LENT key of the newest two", x.come(second, 1), 2);
    x.rotate(1);
    refused(x, last, 1, -17);
    due("the session goes on behind it", x.come(x.send(0, 1, 4), 1), 4);
  }

  private static void comeSkipped() {
    Post x = Post.registered(2, 123);
    int[] l = new int[40];
    for (int i = 0; i < 40; i++) l[i] = x.send(0, 1, 1 + i);
    refused(x, l[11], 1, -15);
    due("ten are KEPT", x.come(l[10], 1), 11);
    due("KEPT", x.session(1, 0, 0, 3), 10);
    due("NR", x.session(1, 0, 0, 1), 11);
    refused(x, l[22], 1, -15);
    due("ten more", x.come(l[21], 1), 22);
    due("KEPT", x.session(1, 0, 0, 3), 20);
    refused(x, l[23], 1, -15);
    due("none to be KEPT", x.come(l[22], 1), 23);
    due("a KEPT one", x.come(l[0], 1), 1);
    due("KEPT", x.session(1, 0, 0, 3), 19);
    refused(x, l[0], 1, -16);
    refused(x, l[25], 1, -15);
    due("one to be KEPT", x.come(l[24], 1), 25);
    refused(x, l[26], 1, -15);
    int bent = x.copy(l[5]);
    x.spoil(bent, 40, 1);
    refused(x, bent, 1, -14);
    due("the KEPT key is still there", x.come(l[5], 1), 6);
    due("then it is gone", x.come(l[5], 1), -16);
    for (int i : new int[] {1, 2, 3, 4, 6, 7, 8, 9, 20, 12, 19, 13, 18, 14, 17, 15, 16, 11, 23}) due("KEPT", x.come(l[i], 1), 1 + i);
    due("KEPT", x.session(1, 0, 0, 3), 0);
    due("NR", x.session(1, 0, 0, 1), 25);
  }

  private static void comeTurned() {
    // Old and new chain together: 4 written and not come, then n of the chain that turns.
    for (int n = 5; n <= 7; n++) {
      Post x = Post.registered(2, 124);
      x.come(x.send(0, 1, 1), 1);
      int[] old = new int[4];
      for (int i = 0; i < 4; i++) old[i] = x.send(0, 1, 10 + i);
      x.come(x.send(1, 0, 1), 0);
      due("PN", x.session(0, 1, 0, 2), 5);
      int[] now = new int[8];
      for (int i = 0; i < 8; i++) now[i] = x.send(0, 1, 20 + i);
      if (n == 7) {
        refused(x, now[n], 1, -15);
      } else {
        due("4 and " + n, x.come(now[n], 1), 20 + n);
        due("KEPT", x.session(1, 0, 0, 3), 4 + n);
        due("PN is NS", x.session(1, 0, 0, 2), 1);
        due("NS", x.session(1, 0, 0, 0), 0);
        due("NR", x.session(1, 0, 0, 1), n + 1);
        for (int i = 0; i < 4; i++) due("old", x.come(old[i], 1), 10 + i);
        for (int i = 0; i < n; i++) due("new", x.come(now[i], 1), 20 + i);
        due("KEPT", x.session(1, 0, 0, 3), 0);
        refused(x, old[1], 1, -14);
        refused(x, now[1], 1, -16);
      }
    }
  }

  private static void comeOrder() {
    Post x = Post.registered(2, 125);
    int a = x.send(0, 1, 1), b = x.send(1, 0, 2);
    x.come(a, 1);
    x.come(b, 0);
    due("two at 0", x.session(0, 1, -1, 0), 2);
    due("two at 1", x.session(1, 0, -1, 0), 2);
    due("kept apart", x.same(0, 1, 0, 0), 0);
    int c = x.send(0, 1, 3);
    due("0 answers in the session of 1", x.same(0, 1, 0, 1), 1);
    due("it is found in the second", x.come(c, 1), 3);
    due("and is the first then", x.same(0, 1, 0, 0), 1);
    // Opened nowhere: the fault of the first session is told, USED, though the second says TAG.
    refused(x, c, 1, -16);
    int d = x.send(1, 0, 4);
    x.come(d, 0);
    x.begin(0, 1);
    x.come(x.send(0, 1, 5), 1);
    refused(x, c, 1, -14);
  }

  /** A HEAD that bears the LENT key's PUBLIC number, where there is no RECEIVING chain yet. */
  private static void comeWithoutChain() {
    Post x = Post.registered(2, 126);
    x.come(x.send(0, 1, 1), 1);
    int answer = x.send(1, 0, 2);
    long right = x.bytesOf(answer, 3, 8);
    x.overwrite(answer, 3, x.number(1, 1), 8);
    refused(x, answer, 0, -14);
    x.overwrite(answer, 3, -1L, 8);
    refused(x, answer, 0, -14);
    x.overwrite(answer, 3, 0, 8);
    refused(x, answer, 0, -14);
    x.overwrite(answer, 3, right, 8);
    due("as it was", x.come(answer, 0), 2);
  }

  /** A letter that bears the other kind's number, and the TEXT's length that this kind's row of bytes would need. */
  private static void comeAsAnotherKind() {
    for (int many : new int[] {1, 20, 21, 40}) {
      Post x = Post.registered(2, 127);
      int l = x.send(0, 1, many);
      x.overwrite(l, 0, 2, 1);
      x.overwrite(l, 15, many + 20, 1);
      refused(x, l, 1, many + 20 > 40 ? -11 : -13);
    }
    for (int many : new int[] {1, 11, 12, 19, 20, 21, 40}) {
      Post x = Post.registered(2, 128);
      x.come(x.send(0, 1, 1), 1);
      int l = x.send(1, 0, many);
      x.overwrite(l, 0, 1, 1);
      x.overwrite(l, 19, 7, 2);
      if (x.letter(l, -1) > 35) x.overwrite(l, 35, many - 20, 1);
      refused(x, l, 0, many - 20 < 1 ? -11 : -17);
    }
  }

  private static void byteOf() {
    Post x = Post.registered(2, 130);
    due("byteOf(0) of none", x.byteOf(0), BAD);
    int l = x.send(0, 1, 3), m = x.send(0, 1, 2);
    due("byteOf(0) before it comes", x.byteOf(0), BAD);
    x.come(l, 1);
    due("byteOf(-1)", x.byteOf(-1), BAD);
    due("byteOf(2)", x.byteOf(2), 3);
    due("byteOf(3)", x.byteOf(3), BAD);
    due("byteOf(40)", x.byteOf(40), BAD);
    due("byteOf(MAX)", x.byteOf(Integer.MAX_VALUE), BAD);
    due("byteOf(MIN)", x.byteOf(Integer.MIN_VALUE), BAD);
    x.come(l, 1);
    due("it stays with a fault", x.byteOf(2), 3);
    x.come(m, 1);
    due("a shorter one", x.byteOf(2), BAD);
    due("a shorter one", x.byteOf(1), 2);
  }

  private static void copy() {
    Post x = Post.registered(2, 140);
    due("copy(0) of none", x.copy(0), BAD);
    int l = x.send(0, 1, 4);
    due("copy(-1)", x.copy(-1), BAD);
    due("copy(1)", x.copy(1), BAD);
    due("copy(0)", x.copy(l), 1);
    for (int i = -1; i < 50; i++) due("byte " + i, x.letter(1, i), x.letter(0, i));
    x.spoil(1, 40, 9);
    due("the first is as it was", x.letter(0, 40) ^ 9, x.letter(1, 40));
    due("a copy of what it is now", x.copy(1), 2);
    due("spoilt likewise", x.letter(2, 40), x.letter(1, 40));
    for (int i = 3; i < 80; i++) due("copy", x.copy(0), i);
    due("copy of 80", x.copy(0), FULL);
    due("copy of none such", x.copy(80), BAD);
    due("come", x.come(79, 1), 4);
    due("come", x.come(0, 1), -16);
  }

  private static void spoil() {
    Post x = Post.registered(2, 150);
    due("spoil of none", x.spoil(0, 0, 1), BAD);
    int l = x.send(0, 1, 4), size = x.letter(l, -1);
    int[][] wrongs = {{-1, 0, 1}, {1, 0, 1}, {0, -1, 1}, {0, size, 1}, {0, 0, 0}, {0, 0, 256}, {0, 0, -1}, {0, Integer.MIN_VALUE, 1}, {0, Integer.MAX_VALUE, 1}};
    for (int[] w : wrongs) due("spoil", x.spoil(w[0], w[1], w[2]), BAD);
    for (int place : new int[] {0, 1, size / 2, size - 1}) {
      int was = x.letter(l, place);
      due("spoil", x.spoil(l, place, 255), was ^ 255);
      due("letter", x.letter(l, place), was ^ 255);
      due("spoil", x.spoil(l, place, 254), was ^ 1);
      due("spoil", x.spoil(l, place, 1), was);
    }
    due("come", x.come(l, 1), 4);
  }

  private static void letter() {
    Post x = Post.registered(2, 160);
    due("letter(0, 0) of none", x.letter(0, 0), BAD);
    int l = x.send(0, 1, 1);
    due("letter(0, -1)", x.letter(l, -1), 45);
    due("letter(0, -2)", x.letter(l, -2), BAD);
    due("letter(0, 0)", x.letter(l, 0), 1);
    due("letter(0, 2)", x.letter(l, 2), 1);
    due("letter(0, 45)", x.letter(l, 45), BAD);
    due("letter(1, -1)", x.letter(1, -1), BAD);
    due("letter(-1, -1)", x.letter(-1, -1), BAD);
    due("letter(0, MIN)", x.letter(l, Integer.MIN_VALUE), BAD);
    due("letter(0, MAX)", x.letter(l, Integer.MAX_VALUE), BAD);
    for (int i = 0; i < 45; i++) due("a byte", x.letter(l, i) >= 0 && x.letter(l, i) < 256 ? 1 : 0, 1);
  }

  private static void forge() {
    Post x = new Post(2, 170);
    due("forge of none REGISTERED", x.forge(0, 5), BAD);
    x.register(0);
    x.register(1);
    long p = (1L << 61) - 1, was = x.number(1, 1), r = x.number(1, 2), t = x.number(1, 3);
    due("forge(-1, 5)", x.forge(-1, 5), BAD);
    due("forge(2, 5)", x.forge(2, 5), BAD);
    for (long wrongOne : new long[] {0, -1, p, p + 1, Long.MAX_VALUE, Long.MIN_VALUE}) due("forge(1, " + wrongOne + ")", x.forge(1, wrongOne), BAD);
    due("LENT", x.number(1, 1), was);
    for (long rightOne : new long[] {1, p - 1, 12345}) {
      due("forge(1, " + rightOne + ")", x.forge(1, rightOne), 1);
      due("LENT", x.number(1, 1), rightOne);
      due("begin", x.begin(0, 1), SEAL);
    }
    due("R", x.number(1, 2), r);
    due("t", x.number(1, 3), t);
    due("LENT key", x.user(1, 1), 1);
    due("forge back", x.forge(1, was), 1);
    due("begin", x.begin(0, 1), 1);
    due("come", x.come(x.send(0, 1, 3), 1), 3);
  }

  private static void user() {
    Post x = new Post(3, 180);
    for (int what : new int[] {-1, 8, Integer.MIN_VALUE, Integer.MAX_VALUE}) due("user(0, " + what + ")", x.user(0, what), BAD);
    due("user(-1, 0)", x.user(-1, 0), BAD);
    due("user(3, 0)", x.user(3, 0), BAD);
    for (int u = 0; u < 3; u++) x.register(u);
    x.publish(1, 4);
    x.rotate(1);
    x.come(x.send(0, 1, 1), 1);
    x.come(x.send(2, 1, 1), 1);
    x.begin(1, 2);
    x.begin(0, 1);
    int[] want = {1, 2, 1, 4, 4, 13, 2, 3};
    for (int what = 0; what < 8; what++) due("user(1, " + what + ")", x.user(1, what), want[what]);
    x.begin(0, 1);
    due("none there", x.user(1, 2), 0);
    due("no least", x.user(1, 3), 0);
    due("SECRETS", x.user(1, 6), 2);
    x.forget(1, 2);
    due("sessions", x.user(1, 7), 1);
  }

  private static void number() {
    Post x = new Post(2, 190);
    for (int what = -1; what < 6; what++) due("number of none REGISTERED", x.number(0, what), 0);
    x.register(0);
    x.register(1);
    x.publish(1, 2);
    due("number(-1, 0)", x.number(-1, 0), 0);
    due("number(2, 0)", x.number(2, 0), 0);
    for (int what : new int[] {-1, 5, Integer.MIN_VALUE, Integer.MAX_VALUE}) due("number(1, " + what + ")", x.number(1, what), 0);
    due("IDENTITY", x.number(1, 0), open(secret(191, 1)));
    due("LENT", x.number(1, 1), open(secret(191, 2)));
    due("R", x.number(1, 2), open(secret(191, 3)));
    due("t", x.number(1, 3), proof(191, 3, x.number(1, 1)));
    due("ONCE", x.number(1, 4), open(secret(191, 4)));
    x.begin(0, 1);
    due("ONCE", x.number(1, 4), open(secret(191, 5)));
    x.begin(0, 1);
    due("ONCE", x.number(1, 4), 0);
    due("ONCE of who has none", x.number(0, 4), 0);
  }

  private static void session() {
    Post x = Post.registered(3, 200);
    due("none", x.session(0, 1, 0, 0), BAD);
    due("how many", x.session(0, 1, -1, 0), 0);
    int l = x.send(0, 1, 1), m = x.send(0, 1, 1), n = x.send(0, 1, 1);
    int[] want = {3, 0, 0, 0, 1, 1, 1, 0};
    for (int what = 0; what < 8; what++) due("session(0, 1, 0, " + what + ")", x.session(0, 1, 0, what), want[what]);
    x.come(n, 1);
    x.come(m, 1);
    x.send(1, 0, 1);
    int[] other = {1, 3, 0, 1, 0, 0, 1, 1};
    for (int what = 0; what < 8; what++) due("session(1, 0, 0, " + what + ")", x.session(1, 0, 0, what), other[what]);
    x.come(3, 0);
    int[] turned = {0, 1, 3, 0, 0, 1, 1, 1};
    for (int what = 0; what < 8; what++) due("session(0, 1, 0, " + what + ")", x.session(0, 1, 0, what), turned[what]);
    due("come", x.come(l, 1), 1);
    for (int[] w : new int[][] {{0, 1, 1, 0}, {0, 1, -1, 1}, {0, 1, -2, 0}, {0, 1, 0, -1}, {0, 1, 0, 8}, {0, 0, 0, 0}, {0, 0, -1, 0},
        {-1, 0, -1, 0}, {3, 0, -1, 0}, {0, 3, -1, 0}, {0, -1, -1, 0}, {0, 1, 4, 0}, {0, 1, Integer.MAX_VALUE, 0}, {0, 1, Integer.MIN_VALUE, 0}})
      due("session(" + w[0] + ", " + w[1] + ", " + w[2] + ", " + w[3] + ")", x.session(w[0], w[1], w[2], w[3]), BAD);
    due("how many", x.session(0, 1, -1, 0), 1);
    due("how many", x.session(2, 1, -1, 0), 0);
  }

  private static void inside() {
    Post x = Post.registered(2, 210);
    int l = x.send(0, 1, 1);
    due("own", x.inside(0, 1, 0, 3), open(secret(210, 5)));
    due("the other's", x.inside(0, 1, 0, 4), x.number(1, 1));
    due("RECEIVING", x.inside(0, 1, 0, 2), 0);
    long root = x.inside(0, 1, 0, 0), sending = x.inside(0, 1, 0, 1);
    x.come(l, 1);
    BigInteger pair = secret(211, 4);
    long mixed = common(pair, open(secret(210, 5)));
    due("ROOT of the other side", x.inside(1, 0, 0, 0), key(1, root, mixed));
    due("SENDING", x.inside(1, 0, 0, 1), key(2, root, mixed));
    due("RECEIVING", x.inside(1, 0, 0, 2), sending);
    due("own", x.inside(1, 0, 0, 3), open(pair));
    due("the other's", x.inside(1, 0, 0, 4), open(secret(210, 5)));
    for (int[] w : new int[][] {{0, 1, 1, 0}, {0, 1, -1, 0}, {0, 1, 0, -1}, {0, 1, 0, 5}, {0, 0, 0, 0}, {-1, 0, 0, 0}, {2, 0, 0, 0}, {0, 2, 0, 0}, {0, -1, 0, 0}})
      due("inside", x.inside(w[0], w[1], w[2], w[3]), 0);
  }

  private static void same() {
    Post x = Post.registered(3, 220);
    due("none", x.same(0, 1, 0, 0), BAD);
    int l = x.send(0, 1, 1);
    due("none at the other side", x.same(0, 1, 0, 0), BAD);
    due("none at this side", x.same(1, 0, 0, 0), BAD);
    x.come(l, 1);
    due("same", x.same(0, 1, 0, 0), 1);
    due("same", x.same(1, 0, 0, 0), 1);
    x.begin(0, 1);
    due("same", x.same(0, 1, 0, 0), 0);
    due("same", x.same(0, 1, 1, 0), 1);
    due("same", x.same(1, 0, 0, 1), 1);
    x.begin(1, 0);
    due("begun by both", x.same(0, 1, 0, 0), 0);
    x.come(x.send(0, 1, 1), 1);
    due("same", x.same(0, 1, 0, 0), 1);
    for (int[] w : new int[][] {{0, 1, 2, 0}, {0, 1, 0, 3}, {0, 1, -1, 0}, {0, 1, 0, -1}, {0, 0, 0, 0}, {-1, 0, 0, 0}, {0, 3, 0, 0}, {3, 0, 0, 0}, {0, -1, 0, 0}})
      due("same", x.same(w[0], w[1], w[2], w[3]), BAD);
  }

  private static void look() {
    Post x = new Post(2, 230);
    due("look(-1)", x.look(-1), BAD);
    due("look(2)", x.look(2), BAD);
    due("look(0)", x.look(0), 1);
    due("look(0)", x.look(0), 2);
    x.register(0);
    x.register(1);
    String before = x.state().substring(6);
    due("look(1)", x.look(1), 3);
    due("count", x.count(2), 3);
    due("nothing else is other", x.state().substring(6).equals(before) ? 1 : 0, 1);
    Post y = Post.registered(2, 230);
    int l = y.send(0, 1, 1);
    due("not LOOKED", y.readable(l), 0);
    y.look(1);
    due("LOOKED", y.readable(l), 1);
  }

  private static void readable() {
    Post x = Post.registered(3, 240);
    due("readable(0) of none", x.readable(0), BAD);
    int a = x.send(0, 1, 1), b = x.send(0, 1, 1);
    due("readable(-1)", x.readable(-1), BAD);
    due("readable(2)", x.readable(2), BAD);
    due("readable", x.readable(a), 0);
    x.look(2);
    due("who LOOKED elsewhere", x.readable(a), 0);
    x.look(0);
    due("before the SENDING chain's place", x.readable(a), 0);
    due("before the SENDING chain's place", x.readable(b), 0);
    int c = x.send(0, 1, 1), copied = x.copy(c);
    due("behind it", x.readable(c), 1);
    due("a copy", x.readable(copied), 1);
    x.spoil(copied, 0, 255);
    due("as it was written", x.readable(copied), 1);
    due("a copy's copy", x.readable(x.copy(copied)), 1);
    due("a copy of the other", x.readable(x.copy(a)), 0);
    x.forget(0, 1);
    due("what was got stays got", x.readable(c), 1);
    int d = x.send(0, 1, 1);
    due("another session", x.readable(d), 0);
    x.look(1);
    due("SECRETS of IDENTITY and LENT key", x.readable(a) + x.readable(b) + x.readable(d), 3);
  }

  private static void readableOnce() {
    Post x = Post.registered(2, 241);
    x.look(1);
    x.publish(1, 2);
    int a = x.send(0, 1, 1);
    due("without the ONCE key", x.readable(a), 0);
    x.come(a, 1);
    x.look(1);
    due("it was used", x.readable(a), 0);
    int b = x.send(0, 1, 1);
    due("the RECEIVING chain", x.readable(b), 1);
    x.begin(0, 1);
    int c = x.send(0, 1, 1);
    due("the ONCE key is kept", x.readable(c), 1);
    x.come(c, 1);
    due("it stays got", x.readable(c), 1);
    x.begin(0, 1);
    due("no ONCE key needs nothing", x.readable(x.send(0, 1, 1)), 1);
    Post y = Post.registered(2, 241);
    y.publish(1, 1);
    y.forge(1, 5);
    y.begin(0, 1);
    y.look(1);
    y.rotate(1);
    due("another LENT key", y.readable(y.send(0, 1, 1)), 0);
  }

  /** Two turns behind a LOOK nothing can be read any more. */
  private static void readableHeals() {
    Post x = Post.registered(2, 242);
    int a = x.send(0, 1, 1);
    x.come(a, 1);
    int b = x.send(1, 0, 1);
    x.come(b, 0);
    x.look(0);
    due("read", x.readable(a), 0);
    due("read", x.readable(b), 0);
    int c = x.send(0, 1, 1);
    due("SENDING", x.readable(c), 1);
    x.come(c, 1);
    int d = x.send(1, 0, 1);
    due("own SECRET and ROOT", x.readable(d), 1);
    x.come(d, 0);
    int e = x.send(0, 1, 1);
    due("a new pair on both sides", x.readable(e), 0);
    x.come(e, 1);
    int f = x.send(1, 0, 1);
    due("and so on", x.readable(f), 0);
    x.look(1);
    due("the second LOOK", x.readable(f), 0);
    due("what is written behind it", x.readable(x.send(1, 0, 1)), 1);
    due("between both", x.readable(e), 0);
  }

  private static void readableKept() {
    Post x = Post.registered(2, 243);
    x.publish(1, 1);
    int[] l = new int[5];
    for (int i = 0; i < 5; i++) l[i] = x.send(0, 1, 1);
    x.come(l[3], 1);
    x.come(l[1], 1);
    x.look(1);
    int[] want = {1, 0, 1, 0, 1};
    for (int i = 0; i < 5; i++) due("letter " + i, x.readable(l[i]), want[i]);
    x.come(l[0], 1);
    due("it stays got", x.readable(l[0]), 1);
    Post y = Post.registered(2, 243);
    y.publish(1, 1);
    for (int i = 0; i < 3; i++) l[i] = y.send(0, 1, 1);
    y.come(l[2], 1);
    y.forget(1, 0);
    y.look(1);
    for (int i = 0; i < 3; i++) due("RETIRED", y.readable(l[i]), 0);
  }

  private static void readableLent() {
    for (int turns = 0; turns < 3; turns++) {
      Post x = Post.registered(2, 244);
      int a = x.send(0, 1, 1);
      x.come(a, 1);
      int b = x.send(1, 0, 1);
      for (int i = 0; i < turns; i++) x.rotate(1);
      x.forget(1, 0);
      x.look(1);
      due("LENT key of the newest two, " + turns, x.readable(a), turns < 2 ? 1 : 0);
      due("its answer needs a pair's SECRET", x.readable(b), 0);
    }
    // Both SECRETS of the second turn are gone, but one of them is got while its session is there.
    Post x = Post.registered(2, 245);
    int a = x.send(0, 1, 1);
    x.look(0);
    x.forget(0, 1);
    x.come(a, 1);
    int b = x.send(1, 0, 1);
    due("ROOT and own SECRET at the beginner", x.readable(b), 1);
    due("its first letter was gone by", x.readable(a), 0);
    // IDENTITY of the one, at another LOOK the LENT key of the other: pieces of several LOOKS go together.
    Post y = Post.registered(2, 246);
    y.look(1);
    y.rotate(1);
    y.rotate(1);
    int c = y.send(0, 1, 1);
    due("LENT key is newer than the LOOK", y.readable(c), 0);
    y.come(c, 1);
    y.look(1);
    due("LENT key is got", y.readable(c), 1);
  }

  private static void readableForged() {
    due("a number of the issue", numberOfSameSeal(Post.registered(2, 1).number(1, 1), Post.registered(2, 1).number(1, 2)), 135345720259645515L);
    int forged = 0;
    for (int seed = 250; seed < 260; seed++) {
      Post x = Post.registered(2, seed);
      long right = x.number(1, 1), other = numberOfSameSeal(x.number(1, 1), x.number(1, 2));
      if (other == 0) continue;
      forged++;
      x.forge(1, other);
      int a = x.send(0, 1, 1);
      due("the other's", x.inside(0, 1, 0, 4), other);
      x.look(1);
      due("nobody has the forged number's SECRET", x.readable(a), 0);
      refused(x, a, 1, -14);
      int b = x.send(0, 1, 1);
      x.look(0);
      due("before the SENDING chain's place", x.readable(b), 0);
      due("behind it", x.readable(x.send(0, 1, 1)), 1);
      x.forge(1, right);
      x.begin(0, 1);
      due("of the right number", x.readable(x.send(0, 1, 1)), 1);
    }
    due("forged numbers were found", forged > 3 ? 1 : 0, 1);
  }

  /** The PUBLIC number in the HEAD becomes one that nobody, or another user, has the SECRET of. */
  private static void readableSpoiltHead() {
    for (int looked = 0; looked < 2; looked++) {
      Post x = Post.registered(3, 260);
      if (looked == 1) x.look(1);
      int a = x.send(0, 1, 1);
      x.overwrite(a, 23, looked == 1 ? x.number(2, 0) : 7, 8);
      x.retagTurning(a, x.rootAtReader(a, identityOf(261), lentOf(261), null), lentOf(261));
      due("come", x.come(a, 1), 1);
      due("the other's", x.inside(1, 0, 0, 4), x.bytesOf(a, 23, 8));
      int b = x.send(1, 0, 1);
      due("the new pair's SECRET is not got", x.readable(b), 0);
      x.look(0);
      due("the writer's SECRET is of another number", x.readable(b), 0);
      x.look(2);
      due("the IDENTITY of another one", x.readable(b), looked);
      x.look(1);
      due("who opened it keeps IDENTITY, LENT key and the new pair", x.readable(b), 1);
      due("SENDING", x.readable(x.send(1, 0, 1)), 1);
    }
    // Spoilt back to what it was it is opened as if nothing had been.
    Post y = Post.registered(2, 262);
    int a = y.send(0, 1, 1);
    long was = y.bytesOf(a, 23, 8);
    y.overwrite(a, 23, 7, 8);
    y.overwrite(a, 23, was, 8);
    y.come(a, 1);
    int b = y.send(1, 0, 1);
    y.look(0);
    due("the writer's SECRET", y.readable(b), 1);
  }

  /** The IDENTITY, e, the LENT key's or the ONCE key's number becomes another one: so does the ROOT at who opens it. */
  private static void readableSpoiltBeginning() {
    int[][] spoilt = {{3, 8, 7}, {11, 8, 7}, {19, 2, 1}, {21, 2, 0}, {21, 2, 2}};
    for (int[] s : spoilt) {
      Post x = Post.registered(2, 270);
      x.publish(1, 2);
      x.rotate(1);
      int a = x.send(0, 1, 1);
      x.overwrite(a, s[0], s[2], s[1]);
      BigInteger lent = s[0] == 19 ? lentOf(271) : secret(271, 6);
      BigInteger once = s[0] == 21 ? s[2] == 0 ? null : secret(271, 5) : secret(271, 4);
      x.retagTurning(a, x.rootAtReader(a, identityOf(271), lent, once), lent);
      due("come", x.come(a, 1), 1);
      due("began from one secret", x.same(0, 1, 0, 0), 0);
      due("SECRETS of ONCE keys", x.user(1, 6), s[0] == 21 && s[2] == 0 ? 2 : 1);
      int b = x.send(1, 0, 1), c = x.send(0, 1, 1);
      x.look(0);
      due("the writer's ROOT is another one, " + s[0] + " " + s[2], x.readable(b), 0);
      due("the writer's letters are of that, " + s[0] + " " + s[2], x.readable(c), 0);
      int d = x.send(0, 1, 1);
      due("SENDING, " + s[0] + " " + s[2], x.readable(d), 1);
      x.look(1);
      // Without the ONCE key that was used the writer's ROOT is not worked out; one that was not used is still kept.
      due("what who opens it keeps, " + s[0] + " " + s[2], x.readable(a), s[0] == 21 ? 1 : 0);
    }
    Post y = Post.registered(2, 280);
    y.look(1);
    y.publish(1, 1);
    int a = y.send(0, 1, 1);
    y.overwrite(a, 21, 0, 2);
    y.retagTurning(a, y.rootAtReader(a, identityOf(281), lentOf(281), null), lentOf(281));
    y.come(a, 1);
    int b = y.send(1, 0, 1);
    due("neither pair's SECRET", y.readable(b), 0);
    y.look(0);
    due("a ROOT of three COMMONS, and a pair's SECRET", y.readable(b), 1);
    due("the writer's is of four", y.readable(a), 0);
  }

  /** KEPT keys of a chain that came of a spoilt number are not those of the writer's chain. */
  private static void readableSpoiltKept() {
    for (int spoilt = 0; spoilt < 2; spoilt++) {
      Post x = Post.registered(2, 290);
      x.publish(1, 1);
      int a = x.send(0, 1, 1), b = x.send(0, 1, 1), c = x.send(0, 1, 1), d = x.send(0, 1, 1);
      if (spoilt == 1) {
        x.overwrite(c, 23, 7, 8);
        x.retagTurning(c, x.rootAtReader(c, identityOf(291), lentOf(291), secret(291, 4)), lentOf(291));
      }
      due("come", x.come(c, 1), 1);
      due("KEPT", x.session(1, 0, 0, 3), 2);
      x.look(1);
      due("KEPT keys", x.readable(a) + x.readable(b), spoilt == 1 ? 0 : 2);
      due("RECEIVING", x.readable(d), 1 - spoilt);
      due("its own is gone by", x.readable(c), 0);
    }
    // Of two KEPT keys with one PUBLIC number and place the one that was KEPT first is taken.
    Post y = Post.registered(2, 292);
    int a = y.send(0, 1, 1), b = y.send(0, 1, 1), c = y.send(0, 1, 1);
    due("come", y.come(b, 1), 1);
    long first = y.bytesOf(b, 23, 8);
    for (long p : new long[] {7, first}) {
      long root = y.inside(1, 0, 0, 0);
      BigInteger own = secret(293, y.user(1, 5));
      y.overwrite(c, 23, p, 8);
      y.retagTurning(c, root, own);
      due("come", y.come(c, 1), 1);
    }
    due("KEPT", y.session(1, 0, 0, 3), 5);
    due("the older of two", y.come(a, 1), 1);
    due("KEPT", y.session(1, 0, 0, 3), 4);
    refused(y, a, 1, -14);
  }

  /** A letter's bytes become those of another SESSION's letter: it is opened as that one. */
  private static void readableOtherBytes() {
    Post x = Post.registered(2, 300);
    int a = x.send(0, 1, 1);
    x.look(0);
    x.begin(0, 1);
    int b = x.send(0, 1, 1);
    for (int i = 0; i < x.letter(b, -1); i++) x.overwrite(a, i, x.letter(b, i), 1);
    due("come", x.come(a, 1), 1);
    due("began from one secret", x.same(0, 1, 0, 0), 1);
    int c = x.send(1, 0, 1);
    due("the LOOK was before that SESSION", x.readable(c), 0);
    x.look(0);
    due("this one was not", x.readable(c), 1);
    due("as they were written", x.readable(a) + x.readable(b), 0);
  }

  /** The PUBLIC number that a user (of this SEED) draws next. */
  private static long nextOpen(Post x, int u, long seed) {
    return open(secret(seed, x.user(u, 5) + 1));
  }

  /**
   * The IDENTITY, e and the PUBLIC number in the HEAD become numbers that users 2, 3 and 4 draw next, as ONCE keys:
   * before they are spoilt, before the letter is opened, or afterwards. Then it is another number of the same value.
   */
  private static void readableDrawnLater() {
    int[] places = {3, 11, 23};
    for (int when = 0; when < 27; when++) {
      Post x = Post.registered(5, 310);
      int a = x.send(0, 1, 1), at = when;
      boolean before = true;
      long[] opens = new long[3];
      for (int i = 0; i < 3; i++, at /= 3) {
        opens[i] = nextOpen(x, i + 2, 312 + i);
        if (at % 3 == 0) x.publish(i + 2, 1);
        x.overwrite(a, places[i], opens[i], 8);
        if (at % 3 == 1) x.publish(i + 2, 1);
        before &= at % 3 != 2;
      }
      x.retagTurning(a, x.rootAtReader(a, identityOf(311), lentOf(311), null), lentOf(311));
      due("come", x.come(a, 1), 1);
      int b = x.send(1, 0, 1);
      at = when;
      for (int i = 0; i < 3; i++, at /= 3) {
        if (at % 3 == 2) x.publish(i + 2, 1);
        due("its value", x.number(i + 2, 4), opens[i]);
        due("not yet", x.readable(b), 0);
        x.look(i + 2);
      }
      due("numbers drawn before it was opened, " + when, x.readable(b), before ? 1 : 0);
      x.look(1);
      due("who opened it has one of both SECRETS each", x.readable(b), 1);
    }
  }

  /** The same with the HEAD of a letter without a BEGINNING. */
  private static void readableAnswerDrawnLater() {
    for (int when = 0; when < 3; when++) {
      Post x = Post.registered(3, 320);
      x.deliver(0, 1, 1);
      x.deliver(1, 0, 1);
      int c = x.send(0, 1, 1);
      x.look(1);
      long root = x.inside(1, 0, 0, 0), next = nextOpen(x, 2, 322);
      if (when == 0) x.publish(2, 1);
      x.overwrite(c, 3, next, 8);
      x.retagTurning(c, root, secret(321, x.user(1, 5)));
      if (when == 1) x.publish(2, 1);
      due("come", x.come(c, 1), 1);
      int d = x.send(1, 0, 1);
      if (when == 2) x.publish(2, 1);
      due("its value", x.number(2, 4), next);
      due("a new pair", x.readable(d), 0);
      x.look(2);
      due("a number drawn before it was opened, " + when, x.readable(d), when < 2 ? 1 : 0);
      x.look(1);
      due("the new pair's SECRET", x.readable(d), 1);
    }
  }

  /** The PUBLIC number in the HEAD is that of the pair which is drawn by opening the letter: nobody had drawn it then. */
  private static void readableOwnDrawnLater() {
    for (int rotated = 1; rotated <= 2; rotated++) {
      Post x = Post.registered(3, 330);
      x.publish(2, 2);
      x.look(2);
      int a = x.send(0, 1, 1);
      // Who LOOKED at 2 has the SECRETS of all first COMMONS.
      x.overwrite(a, 3, open(secret(332, 4)), 8);
      x.overwrite(a, 11, open(secret(332, 5)), 8);
      x.overwrite(a, 23, nextOpen(x, 1, 331), 8);
      x.retagTurning(a, x.rootAtReader(a, identityOf(331), lentOf(331), null), lentOf(331));
      due("come", x.come(a, 1), 1);
      due("one value", x.inside(1, 0, 0, 3), x.inside(1, 0, 0, 4));
      int b = x.send(1, 0, 1);
      for (int i = 0; i < rotated; i++) x.rotate(1);
      x.look(1);
      due("the ROOT before it needs the LENT key's SECRET, " + rotated, x.readable(b), rotated == 1 ? 1 : 0);
      due("SENDING", x.readable(x.send(1, 0, 1)), 1);
    }
  }

  /**
   * 0 opens a letter with the PUBLIC number of the pair that 1 has drawn, or will draw: so chains of both have one
   * value. If nobody had drawn that number, 0's chain came to be in another way than 1's.
   */
  private static void readableSameValue() {
    for (int later = 0; later < 2; later++) {
      Post x = Post.registered(2, 340);
      x.publish(1, 1);
      int a = x.send(0, 1, 1), forged = x.copy(a);
      long next = nextOpen(x, 1, 341);
      if (later == 0) due("come", x.come(a, 1), 1);
      // A letter of 1 byte with a BEGINNING is as long as one of 21 bytes without it.
      x.overwrite(forged, 0, 0x020100, 3);
      x.overwrite(forged, 3, next, 8);
      x.overwrite(forged, 11, 0, 4);
      x.overwrite(forged, 15, 21, 1);
      x.retagTurning(forged, x.inside(0, 1, 0, 0), secret(340, x.user(0, 5)));
      due("come", x.come(forged, 0), 21);
      if (later == 1) due("come", x.come(a, 1), 1);
      due("one value", x.inside(1, 0, 0, 3), next);
      x.look(0);
      int b = x.send(1, 0, 1), c = x.send(1, 0, 1);
      due("its place is gone by", x.readable(b), 0);
      due("RECEIVING, the number drawn " + (later == 1 ? "later" : "before"), x.readable(c), 1 - later);
      due("the values agree", x.come(c, 0), 1);
    }
  }

  private static void count() {
    Post x = Post.registered(2, 250);
    for (int what : new int[] {-1, 5, Integer.MIN_VALUE, Integer.MAX_VALUE}) due("count(" + what + ")", x.count(what), BAD);
    int l = x.send(0, 1, 7);
    x.copy(l);
    x.copy(1);
    x.look(0);
    x.type(33);
    x.come(2, 1);
    int[] want = {3, 2, 1, 7, 33};
    for (int what = 0; what < 5; what++) due("count(" + what + ")", x.count(what), want[what]);
    x.come(2, 1);
    due("READING stays", x.count(3), 7);
  }
}
