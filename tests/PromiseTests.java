import java.math.BigInteger;

/** For each promise of the document: ordinary inputs, the edges that it names, and wrong inputs. */
public final class PromiseTests {
  private static final int BAD = -1, NONE = -2, FULL = -3, SEAL = -10;
  private static final BigInteger P = BigInteger.TWO.pow(61).subtract(BigInteger.ONE), Q = P.subtract(BigInteger.ONE);
  private static final BigInteger THREE = BigInteger.valueOf(3);
  private static int wrong = 0, promise = 0;

  private static void due(String call, long got, long want) {
    if (got != want) { wrong++; System.out.println("promise " + promise + ": " + call + " answered " + got + ", due is " + want); }
  }

  public static void main(String[] args) {
    promise = 1; newObject();
    promise = 2; feed();
    promise = 3; end();
    promise = 4; register();
    promise = 5; publish();
    promise = 6; rotate();
    promise = 7; write(); writeBytes(); writeFull();
    promise = 8; begin(); beginRow();
    promise = 9; forget();
    promise = 10; come(); comeFaults(); comeBeginningFaults(); comeSkipped(); comeTurned(); comeOrder(); comeWithoutChain(); comeAsAnotherKind(); comeHundred();
    promise = 11; byteOf();
    promise = 12; copy();
    promise = 13; spoil();
    promise = 14; letter();
    promise = 15; forge();
    promise = 16; user();
    promise = 17; number();
    promise = 18; session();
    promise = 19; inside();
    promise = 20; same();
    promise = 21; look();
    promise = 22; readable(); readableOnce(); readableHeals(); readableKept(); readableLent(); readableForged(); readableSpoiltHead(); readableSpoiltBeginning(); readableSpoiltKept(); readableOtherBytes();
    promise = 23; count();
    System.out.println(wrong == 0 ? "all promises are kept" : wrong + " answers are not as due");
    if (wrong != 0) System.exit(1);
  }

  // ---- what the tests have in common

  private static RatchetPost registered(int n, int seed) {
    RatchetPost x = new RatchetPost(n, seed);
    for (int u = 0; u < n; u++) x.register(u);
    return x;
  }

  /** A tape of so many bytes: 1, 2, 3, .. */
  private static void type(RatchetPost x, int many) {
    for (int at = 0; at < many; at += 20) {
      int a = at + 1;
      x.feed(four(a), four(a + 4), four(a + 8), four(a + 12), four(a + 16));
      if (at + 20 > many) x.end(many - at);
    }
  }

  private static int four(int first) {
    return first << 24 | first + 1 << 16 | first + 2 << 8 | first + 3;
  }

  private static int send(RatchetPost x, int u, int v, int many) {
    type(x, many);
    return x.write(u, v);
  }

  /** All that can be told of an object but for its letters. */
  private static String state(RatchetPost x) {
    StringBuilder s = new StringBuilder();
    for (int what = 0; what < 5; what++) s.append(x.count(what)).append(' ');
    for (int i = 0; i < x.count(3); i++) s.append(x.byteOf(i)).append(' ');
    for (int u = 0; u < 6; u++) {
      for (int what = 0; what < 8; what++) s.append(x.user(u, what)).append(' ').append(x.number(u, what)).append(' ');
      for (int v = 0; v < 6; v++)
        for (int i = 0; i < 4; i++)
          for (int what = 0; what < 8; what++) s.append(x.session(u, v, i, what)).append(' ').append(x.inside(u, v, i, what)).append(' ');
    }
    return s.toString();
  }

  /** A letter that must be refused, with nothing changed by it. */
  private static void refused(RatchetPost x, int letter, int u, int want) {
    String before = state(x);
    due("come(" + letter + ", " + u + ")", x.come(letter, u), want);
    due("nothing is other after a fault " + want, state(x).equals(before) ? 1 : 0, 1);
  }

  /** The letter's bytes from a place on become a number of so many bytes. */
  private static void overwrite(RatchetPost x, int letter, int place, long number, int many) {
    for (int i = 0; i < many; i++) {
      int mask = x.letter(letter, place + i) ^ (int) (number >>> 8 * (many - 1 - i) & 255);
      if (mask != 0) x.spoil(letter, place + i, mask);
    }
  }

  private static BigInteger plain(long number) { return new BigInteger(Long.toUnsignedString(number)); }

  private static long mix(long a, long b) {
    long h = (a ^ 0x5851F42D4C957F2DL) * 0x9E3779B97F4A7C15L;
    h = (h ^ h >>> 32) + b;
    h *= 0xD6E8FEB86659FD93L;
    return h ^ h >>> 29;
  }

  private static long key(int k, long x, long y) { return mix(mix(k, x), y); }

  private static long sum(long... numbers) {
    long h = 0;
    for (long n : numbers) h = mix(h, n);
    return h;
  }

  private static BigInteger secret(long seed, int i) {
    return plain(mix(seed, i)).mod(Q.subtract(BigInteger.ONE)).add(BigInteger.ONE);
  }

  private static long open(BigInteger secret) { return THREE.modPow(secret, P).longValue(); }

  private static long common(BigInteger secret, long open) { return BigInteger.valueOf(open).modPow(secret, P).longValue(); }

  private static long bytesOf(RatchetPost x, int letter, int place, int many) {
    long number = 0;
    for (int i = 0; i < many; i++) number = number << 8 | x.letter(letter, place + i);
    return number;
  }

  // ---- the promises

  private static void newObject() {
    int[][] users = {{Integer.MIN_VALUE, 2}, {-1, 2}, {0, 2}, {1, 2}, {2, 2}, {3, 3}, {6, 6}, {7, 6}, {Integer.MAX_VALUE, 6}};
    for (int[] row : users) {
      RatchetPost x = new RatchetPost(row[0], 9);
      due("users of n = " + row[0], x.user(row[1] - 1, 0), 0);
      due("no more users of n = " + row[0], x.user(row[1], 0), BAD);
    }
    for (int seed : new int[] {0, 5, -1, -2, Integer.MIN_VALUE, Integer.MAX_VALUE}) {
      RatchetPost x = registered(3, seed);
      for (int u = 0; u < 3; u++) due("SEED " + seed + " and " + u, x.number(u, 0), open(secret((long) seed + u, 1)));
    }
    RatchetPost x = new RatchetPost(4, 1);
    for (int what = 0; what < 5; what++) due("count of a new one", x.count(what), 0);
    for (int what = 0; what < 8; what++) due("user of a new one", x.user(3, what), 0);
    for (int what = 0; what < 5; what++) due("number of a new one", x.number(3, what), 0);
    due("sessions of a new one", x.session(0, 1, -1, 0), 0);
    due("letter of a new one", x.letter(0, -1), BAD);
  }

  private static void feed() {
    RatchetPost x = registered(2, 3);
    due("feed", x.feed(0x01020304, -1, 0x80000000, 0x7F00FF01, 9), 20);
    due("feed", x.feed(0x11121314, 0, 0, 0, 0x21222324), 40);
    due("feed above 40", x.feed(1, 1, 1, 1, 1), FULL);
    due("tape after FULL", x.count(4), 40);
    x.come(x.write(0, 1), 1);
    int[] want = {1, 2, 3, 4, 255, 255, 255, 255, 128, 0, 0, 0, 127, 0, 255, 1, 0, 0, 0, 9, 0x11, 0x12, 0x13, 0x14};
    for (int i = 0; i < want.length; i++) due("byte " + i, x.byteOf(i), want[i]);
    for (int i = 0; i < 4; i++) due("byte " + (36 + i), x.byteOf(36 + i), 0x21 + i);
    due("feed behind an empty tape", x.feed(1, 1, 1, 1, 1), 20);
    due("end", x.end(1), 1);
    due("feed behind one", x.feed(1, 1, 1, 1, 1), 21);
    due("feed to 41", x.feed(1, 1, 1, 1, 1), FULL);
  }

  private static void end() {
    RatchetPost x = registered(2, 3);
    due("end of an empty tape", x.end(0), BAD);
    type(x, 20);
    due("end(-1)", x.end(-1), BAD);
    due("end(21)", x.end(21), BAD);
    due("end(20)", x.end(20), 20);
    due("end(19)", x.end(19), 19);
    due("end of nineteen", x.end(0), BAD);
    x.feed(four(101), four(105), four(109), four(113), four(117));
    due("end of 39", x.end(3), 22);
    due("end of 22", x.end(1), 3);
    x.come(x.write(0, 1), 1);
    due("length", x.count(3), 3);
    for (int i = 0; i < 3; i++) due("byte", x.byteOf(i), i + 1);
    type(x, 20);
    due("end(0)", x.end(0), 0);
    due("write of nothing", x.write(0, 1), BAD);
  }

  private static void register() {
    RatchetPost x = new RatchetPost(2, 40);
    due("register(-1)", x.register(-1), BAD);
    due("register(2)", x.register(2), BAD);
    due("register(1)", x.register(1), 1);
    String before = state(x);
    due("register(1) again", x.register(1), 0);
    due("nothing happens then", state(x).equals(before) ? 1 : 0, 1);
    due("numbers drawn", x.user(1, 5), 3);
    due("LENT key", x.user(1, 1), 1);
    due("IDENTITY", x.number(1, 0), open(secret(41, 1)));
    due("LENT", x.number(1, 1), open(secret(41, 2)));
    due("R", x.number(1, 2), open(secret(41, 3)));
    due("t", x.number(1, 3), proof(41, 3, x.number(1, 1)));
    due("another one has not", x.user(0, 0), 0);
  }

  private static long proof(long seed, int draw, long message) {
    BigInteger r = secret(seed, draw);
    BigInteger e = plain(sum(open(r), message)).mod(Q);
    return r.add(e.multiply(secret(seed, 1))).mod(Q).longValue();
  }

  private static void publish() {
    RatchetPost x = new RatchetPost(2, 50);
    due("publish(0, 1) of none REGISTERED", x.publish(0, 1), NONE);
    due("publish(0, 0)", x.publish(0, 0), BAD);
    due("publish(0, 13)", x.publish(0, 13), BAD);
    due("publish(-1, 1)", x.publish(-1, 1), BAD);
    due("publish(2, 1)", x.publish(2, 1), BAD);
    x.register(0);
    x.register(1);
    due("publish(1, 5)", x.publish(1, 5), 5);
    due("least", x.number(1, 4), open(secret(51, 4)));
    due("publish(1, 8)", x.publish(1, 8), FULL);
    due("numbers drawn", x.user(1, 5), 8);
    due("publish(1, 7)", x.publish(1, 7), 12);
    due("publish(1, 1)", x.publish(1, 1), FULL);
    for (int i = 0; i < 48; i++) {
      x.begin(0, 1);
      due("publish(1, 1)", x.publish(1, 1), 12);
    }
    due("made", x.user(1, 4), 60);
    x.begin(0, 1);
    due("publish above 60", x.publish(1, 1), FULL);
    due("there", x.user(1, 2), 11);
    due("least", x.user(1, 3), 50);
    due("least", x.number(1, 4), open(secret(51, 53)));
    RatchetPost y = registered(2, 5);
    for (int i = 0; i < 5; i++) {
      due("publish(1, 11)", y.publish(1, 11), 11);
      for (int k = 0; k < 11; k++) y.begin(0, 1);
    }
    due("publish(1, 6) of 55", y.publish(1, 6), FULL);
    due("publish(1, 5) of 55", y.publish(1, 5), 5);
    due("SECRETS of 60", y.user(1, 6), 60);
    for (int k = 0; k < 5; k++) y.begin(0, 1);
    due("ONCE key 60", bytesOf(y, send(y, 0, 1, 1), 21, 2), 60);
    due("come", y.come(0, 1), 1);
    due("SECRETS of 59", y.user(1, 6), 59);
  }

  private static void rotate() {
    RatchetPost x = new RatchetPost(2, 60);
    due("rotate(-1)", x.rotate(-1), BAD);
    due("rotate(2)", x.rotate(2), BAD);
    due("rotate(1)", x.rotate(1), NONE);
    x.register(1);
    due("rotate(1)", x.rotate(1), 2);
    due("LENT", x.number(1, 1), open(secret(61, 4)));
    due("R", x.number(1, 2), open(secret(61, 5)));
    due("t", x.number(1, 3), proof(61, 5, x.number(1, 1)));
    for (int k = 3; k <= 20; k++) due("rotate(1)", x.rotate(1), k);
    due("rotate(1) of 20", x.rotate(1), FULL);
    due("LENT key", x.user(1, 1), 20);
    due("numbers drawn", x.user(1, 5), 41);
    x.register(0);
    x.forge(1, 5);
    due("begin with a forged one", x.begin(0, 1), SEAL);
    RatchetPost y = registered(2, 60);
    y.forge(1, 5);
    y.rotate(1);
    due("begin behind rotate", y.begin(0, 1), 1);
  }

  private static void write() {
    RatchetPost x = new RatchetPost(2, 70);
    type(x, 40);
    for (int[] p : new int[][] {{-1, 0}, {0, -1}, {2, 0}, {0, 2}, {0, 0}, {1, 1}}) due("write(" + p[0] + ", " + p[1] + ")", x.write(p[0], p[1]), BAD);
    due("write", x.write(0, 1), NONE);
    x.register(0);
    due("write", x.write(0, 1), NONE);
    due("write", x.write(1, 0), NONE);
    due("tape", x.count(4), 40);
    x.register(1);
    x.publish(1, 2);
    long right = x.number(1, 1);
    x.forge(1, right == 7 ? 8 : 7);
    due("write with a wrong SEAL", x.write(0, 1), SEAL);
    due("tape", x.count(4), 40);
    due("ONCE keys there", x.user(1, 2), 1);
    due("ONCE SECRETS", x.user(1, 6), 2);
    due("numbers drawn", x.user(0, 5), 3);
    due("sessions", x.session(0, 1, -1, 0), 0);
    x.forge(1, right);
    due("write", x.write(0, 1), 0);
    due("tape", x.count(4), 0);
    due("ONCE keys there", x.user(1, 2), 0);
    due("numbers drawn", x.user(0, 5), 5);
    due("write of an empty tape", x.write(0, 1), BAD);
    x.forge(1, 7);
    due("write in the first session asks no SEAL", send(x, 0, 1, 1), 1);
    due("sessions", x.session(0, 1, -1, 0), 1);
  }

  private static void writeBytes() {
    RatchetPost x = registered(2, 80);
    x.publish(1, 3);
    x.begin(0, 1);
    int l = send(x, 0, 1, 3);
    BigInteger identity = secret(80, 1), e = secret(80, 4), lent = secret(81, 2), once = secret(81, 4);
    // The first BUNDLE took ONCE key 1, and there is a session: so it is that session's letter.
    long root = sum(common(identity, open(lent)), common(e, x.number(1, 0)), common(e, open(lent)), common(e, open(once)));
    BigInteger pair = secret(80, 5);
    long turned = common(pair, open(lent));
    due("ROOT", x.inside(0, 1, 0, 0), key(1, root, turned));
    long chain = key(2, root, turned);
    long k = key(3, chain, 0);
    due("SENDING", x.inside(0, 1, 0, 1), key(4, chain, 0));
    due("length", x.letter(l, -1), 3 + 20 + 12 + 1 + 3 + 8);
    due("kind, from, to", bytesOf(x, l, 0, 3), 1 << 16 | 1);
    due("IDENTITY", bytesOf(x, l, 3, 8), open(identity));
    due("e", bytesOf(x, l, 11, 8), open(e));
    due("LENT, ONCE", bytesOf(x, l, 19, 4), 1 << 16 | 1);
    due("HEAD", bytesOf(x, l, 23, 8), open(pair));
    due("PN, NS", bytesOf(x, l, 31, 4), 0);
    due("TEXT's length", x.letter(l, 35), 3);
    for (int i = 0; i < 3; i++) due("TEXT", x.letter(l, 36 + i), i + 1 ^ (int) (key(5, k, i) & 255));
    long[] before = new long[39];
    for (int i = 0; i < 39; i++) before[i] = x.letter(l, i);
    due("TAG", bytesOf(x, l, 39, 8), key(6, k, sum(before)));
    due("the next letter's NS", bytesOf(x, send(x, 0, 1, 40), 33, 2), 1);
    due("a long letter", x.letter(1, -1), 84);
    x.come(l, 1);
    int answer = send(x, 1, 0, 1);
    due("an answer has no BEGINNING", x.letter(answer, 0), 2);
    due("length", x.letter(answer, -1), 3 + 12 + 1 + 1 + 8);
    x.come(answer, 0);
    int third = send(x, 0, 1, 1);
    due("nor has a letter behind it", x.letter(third, 0), 2);
    due("PN, NS", bytesOf(x, third, 11, 4), 2 << 16);
  }

  private static void writeFull() {
    RatchetPost x = registered(2, 90);
    for (int i = 0; i < 40; i++) due("write", send(x, 0, 1, 1), i);
    for (int i = 40; i < 80; i++) due("copy", x.copy(3), i);
    due("write of 80", send(x, 0, 1, 1), FULL);
    due("tape", x.count(4), 1);
    due("NS", x.session(0, 1, 0, 0), 40);
    due("begin is not bound by letters", x.begin(0, 1), 1);
    RatchetPost y = registered(3, 90);
    for (int i = 0; i < 100; i++) due("begin", y.begin(0, 1), 1);
    y.publish(0, 1);
    due("write that would begin", send(y, 1, 0, 1), FULL);
    due("ONCE keys there", y.user(0, 2), 1);
    due("numbers drawn", y.user(1, 5), 3);
    due("write in a session", y.write(0, 1), 0);
  }

  private static void begin() {
    RatchetPost x = new RatchetPost(3, 100);
    for (int[] p : new int[][] {{-1, 0}, {0, -1}, {3, 0}, {0, 3}, {0, 0}, {2, 2}}) due("begin(" + p[0] + ", " + p[1] + ")", x.begin(p[0], p[1]), BAD);
    due("begin", x.begin(0, 1), NONE);
    x.register(0);
    due("begin", x.begin(0, 1), NONE);
    due("begin", x.begin(1, 0), NONE);
    x.register(1);
    due("begin", x.begin(0, 1), 1);
    due("begin", x.begin(1, 0), 1);
    x.publish(0, 1);
    x.forge(0, 99);
    due("begin", x.begin(1, 0), SEAL);
    due("ONCE key", x.user(0, 2), 0);
    due("numbers drawn", x.user(1, 5), 5);
    for (int i = 2; i < 100; i++) due("begin", x.begin(0, 1), 1);
    due("begin of 100", x.begin(0, 1), FULL);
    x.publish(1, 1);
    due("begin of 100", x.begin(0, 1), FULL);
    due("ONCE keys there", x.user(1, 2), 1);
    x.forge(1, 99);
    due("FULL before the SEAL", x.begin(0, 1), FULL);
  }

  private static void beginRow() {
    RatchetPost x = registered(3, 101);
    long[] own = new long[5];
    for (int i = 0; i < 5; i++) {
      x.begin(0, 1);
      own[i] = x.inside(0, 1, 0, 3);
      due("sessions", x.session(0, 1, -1, 0), Math.min(4, i + 1));
    }
    for (int i = 0; i < 4; i++) due("own PUBLIC number of " + i, x.inside(0, 1, i, 3), own[4 - i]);
    due("the other side has none", x.session(1, 0, -1, 0), 0);
    due("nor has another row", x.session(0, 2, -1, 0), 0);
    // A letter opened in the last one makes it the first, and the next begun RETIRES the new last one.
    RatchetPost y = registered(2, 102);
    int l = send(y, 0, 1, 1);
    y.come(l, 1);
    int answer = send(y, 1, 0, 1);
    for (int i = 0; i < 3; i++) y.begin(0, 1);
    long last = y.inside(0, 1, 3, 0), second = y.inside(0, 1, 0, 0);
    due("come", y.come(answer, 0), 1);
    due("begun by 0", y.session(0, 1, 0, 7), 1);
    due("the first before is the second", y.inside(0, 1, 1, 0), second);
    due("the last has changed its place", y.inside(0, 1, 3, 0) == last ? 1 : 0, 0);
    y.begin(0, 1);
    due("it is still there", y.session(0, 1, 1, 7), 1);
  }

  private static void forget() {
    RatchetPost x = registered(3, 110);
    for (int[] p : new int[][] {{-1, 0}, {0, -1}, {3, 0}, {0, 3}, {0, 0}}) due("forget", x.forget(p[0], p[1]), BAD);
    due("forget of none", x.forget(0, 1), 0);
    x.begin(0, 1);
    x.begin(0, 1);
    x.begin(0, 2);
    x.come(send(x, 0, 1, 2), 1);
    due("forget", x.forget(0, 1), 2);
    due("sessions", x.session(0, 1, -1, 0), 0);
    due("in all", x.user(0, 7), 1);
    due("the other side keeps its own", x.session(1, 0, -1, 0), 1);
    due("forget again", x.forget(0, 1), 0);
    due("an answer finds none", x.come(send(x, 1, 0, 1), 0), -13);
    due("write begins anew", x.letter(send(x, 0, 1, 1), 0), 1);
    due("sessions", x.session(0, 1, -1, 0), 1);
    RatchetPost y = new RatchetPost(2, 1);
    due("forget of none REGISTERED", y.forget(0, 1), 0);
  }

  private static void come() {
    RatchetPost x = registered(2, 120);
    x.publish(1, 1);
    int l = send(x, 0, 1, 40);
    due("come(-1, 1)", x.come(-1, 1), BAD);
    due("come(1, 1)", x.come(1, 1), BAD);
    due("come(0, -1)", x.come(l, -1), BAD);
    due("come(0, 2)", x.come(l, 2), BAD);
    due("come", x.come(l, 1), 40);
    for (int i = 0; i < 40; i++) due("READING", x.byteOf(i), i + 1);
    due("ONCE SECRETS", x.user(1, 6), 0);
    due("numbers drawn", x.user(1, 5), 5);
    due("one secret", x.same(0, 1, 0, 0), 1);
    due("chains meet", x.inside(1, 0, 0, 2), x.inside(0, 1, 0, 1));
    due("the other's", x.inside(1, 0, 0, 4), x.inside(0, 1, 0, 3));
    refused(x, l, 1, -16);
    refused(x, l, 0, -11);
    int answer = send(x, 1, 0, 2);
    due("an answer", x.come(answer, 0), 2);
    due("its chain", x.inside(0, 1, 0, 2), x.inside(1, 0, 0, 1));
    due("no BEGINNING any more", x.session(0, 1, 0, 4), 0);
    // Of the old chain, whose keys are not KEPT: it would turn, and that has a wrong TAG.
    int next = send(x, 0, 1, 3);
    due("come", x.come(next, 1), 3);
    refused(x, l, 1, -14);
  }

  private static void comeFaults() {
    RatchetPost x = registered(3, 121);
    int l = send(x, 0, 1, 5);
    int[][] spoilt = {{0, 1}, {0, 2}, {0, 3}, {0, 128}, {1, 1}, {1, 7}, {1, 3}, {2, 1}, {2, 3}, {2, 255}, {35, 1}, {35, 5}, {35, 32}};
    for (int[] s : spoilt) {
      x.spoil(l, s[0], s[1]);
      refused(x, l, 1, -11);
      x.spoil(l, s[0], s[1]);
    }
    for (int place : new int[] {3, 10, 11, 18, 23, 30, 31, 32, 36, 40, 41, 48}) {
      x.spoil(l, place, 1);
      refused(x, l, 1, -14);
      x.spoil(l, place, 1);
    }
    x.spoil(l, 34, 10);
    refused(x, l, 1, -14);
    x.spoil(l, 34, 1);
    refused(x, l, 1, -15);
    x.spoil(l, 34, 11);
    due("as it was", x.come(l, 1), 5);
    RatchetPost y = new RatchetPost(3, 121);
    y.register(0);
    y.register(1);
    int m = send(y, 0, 1, 5);
    y.spoil(m, 2, 3);
    refused(y, m, 2, -12);
    y.spoil(m, 2, 3);
    y.come(m, 1);
    int answer = send(y, 1, 0, 1);
    y.forget(0, 1);
    refused(y, answer, 0, -13);
  }

  private static void comeBeginningFaults() {
    RatchetPost x = registered(3, 122);
    x.publish(1, 3);
    int first = send(x, 0, 1, 1);
    x.begin(0, 1);
    int second = send(x, 0, 1, 2);
    due("come", x.come(first, 1), 1);
    x.spoil(second, 22, 3);
    refused(x, second, 1, -18);
    x.spoil(second, 22, 3 ^ 2 ^ 60);
    refused(x, second, 1, -18);
    overwrite(x, second, 21, 3, 2);
    refused(x, second, 1, -14);
    overwrite(x, second, 21, 0, 2);
    refused(x, second, 1, -14);
    overwrite(x, second, 21, 2, 2);
    // first's e began a session of user 1 with user 0, so it begins none with user 2 either.
    int bent = x.copy(first);
    overwrite(x, bent, 1, 2, 1);
    refused(x, bent, 1, -19);
    overwrite(x, second, 19, 0, 2);
    refused(x, second, 1, -17);
    overwrite(x, second, 19, 2, 2);
    refused(x, second, 1, -17);
    overwrite(x, second, 19, 1, 2);
    x.rotate(1);
    overwrite(x, first, 11, 12345, 8);
    refused(x, first, 1, -18);
    int last = x.copy(bent);
    overwrite(x, last, 1, 0, 1);
    refused(x, last, 1, -16);
    x.forget(1, 0);
    refused(x, last, 1, -19);
    overwrite(x, last, 19, 2, 2);
    refused(x, last, 1, -18);
    overwrite(x, last, 19, 1, 2);
    due("a LENT key of the newest two", x.come(second, 1), 2);
    x.rotate(1);
    refused(x, last, 1, -17);
    due("the session goes on behind it", x.come(send(x, 0, 1, 4), 1), 4);
  }

  private static void comeSkipped() {
    RatchetPost x = registered(2, 123);
    int[] l = new int[40];
    for (int i = 0; i < 40; i++) l[i] = send(x, 0, 1, 1 + i);
    refused(x, l[11], 1, -15);
    due("ten are KEPT", x.come(l[10], 1), 11);
    due("KEPT", x.session(1, 0, 0, 3), 10);
    due("NR", x.session(1, 0, 0, 1), 11);
    refused(x, l[22], 1, -15);
    due("ten more", x.come(l[21], 1), 22);
    due("KEPT", x.session(1, 0, 0, 3), 20);
    refused(x, l[23], 1, -15);
    due("none to be KEPT", x.come(l[22], 1), 23);
    due("a KEPT one", x.come(l[0], 1), 1);
    due("KEPT", x.session(1, 0, 0, 3), 19);
    refused(x, l[0], 1, -16);
    refused(x, l[25], 1, -15);
    due("one to be KEPT", x.come(l[24], 1), 25);
    refused(x, l[26], 1, -15);
    int bent = x.copy(l[5]);
    x.spoil(bent, 40, 1);
    refused(x, bent, 1, -14);
    due("the KEPT key is still there", x.come(l[5], 1), 6);
    due("then it is gone", x.come(l[5], 1), -16);
    for (int i : new int[] {1, 2, 3, 4, 6, 7, 8, 9, 20, 12, 19, 13, 18, 14, 17, 15, 16, 11, 23}) due("KEPT", x.come(l[i], 1), 1 + i);
    due("KEPT", x.session(1, 0, 0, 3), 0);
    due("NR", x.session(1, 0, 0, 1), 25);
  }

  private static void comeTurned() {
    // Old and new chain together: 4 written and not come, then n of the chain that turns.
    for (int n = 5; n <= 7; n++) {
      RatchetPost x = registered(2, 124);
      x.come(send(x, 0, 1, 1), 1);
      int[] old = new int[4];
      for (int i = 0; i < 4; i++) old[i] = send(x, 0, 1, 10 + i);
      x.come(send(x, 1, 0, 1), 0);
      due("PN", x.session(0, 1, 0, 2), 5);
      int[] now = new int[8];
      for (int i = 0; i < 8; i++) now[i] = send(x, 0, 1, 20 + i);
      if (n == 7) {
        refused(x, now[n], 1, -15);
      } else {
        due("4 and " + n, x.come(now[n], 1), 20 + n);
        due("KEPT", x.session(1, 0, 0, 3), 4 + n);
        due("PN is NS", x.session(1, 0, 0, 2), 1);
        due("NS", x.session(1, 0, 0, 0), 0);
        due("NR", x.session(1, 0, 0, 1), n + 1);
        for (int i = 0; i < 4; i++) due("old", x.come(old[i], 1), 10 + i);
        for (int i = 0; i < n; i++) due("new", x.come(now[i], 1), 20 + i);
        due("KEPT", x.session(1, 0, 0, 3), 0);
        refused(x, old[1], 1, -14);
        refused(x, now[1], 1, -16);
      }
    }
  }

  private static void comeOrder() {
    RatchetPost x = registered(2, 125);
    int a = send(x, 0, 1, 1), b = send(x, 1, 0, 2);
    x.come(a, 1);
    x.come(b, 0);
    due("two at 0", x.session(0, 1, -1, 0), 2);
    due("two at 1", x.session(1, 0, -1, 0), 2);
    due("kept apart", x.same(0, 1, 0, 0), 0);
    int c = send(x, 0, 1, 3);
    due("0 answers in the session of 1", x.same(0, 1, 0, 1), 1);
    due("it is found in the second", x.come(c, 1), 3);
    due("and is the first then", x.same(0, 1, 0, 0), 1);
    // Opened nowhere: the fault of the first session is told, USED, though the second says TAG.
    refused(x, c, 1, -16);
    int d = send(x, 1, 0, 4);
    x.come(d, 0);
    x.begin(0, 1);
    x.come(send(x, 0, 1, 5), 1);
    refused(x, c, 1, -14);
  }

  /** A HEAD that bears the LENT key's PUBLIC number, where there is no RECEIVING chain yet. */
  private static void comeWithoutChain() {
    RatchetPost x = registered(2, 126);
    x.come(send(x, 0, 1, 1), 1);
    int answer = send(x, 1, 0, 2);
    long right = bytesOf(x, answer, 3, 8);
    overwrite(x, answer, 3, x.number(1, 1), 8);
    refused(x, answer, 0, -14);
    overwrite(x, answer, 3, -1L, 8);
    refused(x, answer, 0, -14);
    overwrite(x, answer, 3, 0, 8);
    refused(x, answer, 0, -14);
    overwrite(x, answer, 3, right, 8);
    due("as it was", x.come(answer, 0), 2);
  }

  /** A letter that bears the other kind's number, and the TEXT's length that this kind's row of bytes would need. */
  private static void comeAsAnotherKind() {
    for (int many : new int[] {1, 20, 21, 40}) {
      RatchetPost x = registered(2, 127);
      int l = send(x, 0, 1, many);
      overwrite(x, l, 0, 2, 1);
      overwrite(x, l, 15, many + 20, 1);
      refused(x, l, 1, many + 20 > 40 ? -11 : -13);
    }
    for (int many : new int[] {1, 11, 12, 19, 20, 21, 40}) {
      RatchetPost x = registered(2, 128);
      x.come(send(x, 0, 1, 1), 1);
      int l = send(x, 1, 0, many);
      overwrite(x, l, 0, 1, 1);
      overwrite(x, l, 19, 7, 2);
      if (x.letter(l, -1) > 35) overwrite(x, l, 35, many - 20, 1);
      refused(x, l, 0, many - 20 < 1 ? -11 : -17);
    }
  }

  /**
   * The 101st SESSION that a letter would make, within 512 calls: 80 letters with a BEGINNING, and then the last of
   * them with 20 other numbers for e. A second object, which is asked more, tells the bytes.
   */
  private static void comeHundred() {
    RatchetPost x = registered(6, 310), y = registered(6, 310);
    int calls = 6, l = -1;
    for (int i = 0; i < 80; i++) {
      int u = i < 30 ? i / 5 : 0, v = i < 30 ? (u + 1 + i % 5) % 6 : 1;
      for (RatchetPost z : new RatchetPost[] {x, y}) {
        if (i >= 30) due("begin", z.begin(u, v), 1);
        z.feed(i, i, i, i, i);
        l = z.write(u, v);
      }
      calls += i < 30 ? 2 : 3;
    }
    // They come behind all of them: who has a SESSION answers in it, and BEGINS none.
    for (int i = 0; i < 80; i++) {
      due("come", y.come(i, y.letter(i, 2)), 20);
      due("come", x.come(i, y.letter(i, 2)), 20);
      calls++;
    }
    for (int i = 1; i <= 21; i++) {
      int size = y.letter(l, -1);
      int[] before = new int[size];
      for (int place = 0; place < size; place++) before[place] = y.letter(l, place);
      y.spoil(l, 18, i ^ i - 1);
      retag(y, l, rootAtReader(y, l, identityOf(311), lentOf(311), null), lentOf(311));
      for (int place = 0; place < size; place++) {
        int mask = before[place] ^ y.letter(l, place);
        if (mask != 0) { x.spoil(l, place, mask); calls++; }
      }
      y.come(l, 1);
      due("SESSION " + (80 + i), x.come(l, 1), i <= 20 ? 20 : -20);
      calls++;
    }
    x.spoil(l, 19, 1);
    due("a LENT key that is none is the first fault", x.come(l, 1), -17);
    due("calls", calls + 2 <= 512 ? 1 : 0, 1);
  }

  private static void byteOf() {
    RatchetPost x = registered(2, 130);
    due("byteOf(0) of none", x.byteOf(0), BAD);
    int l = send(x, 0, 1, 3), m = send(x, 0, 1, 2);
    due("byteOf(0) before it comes", x.byteOf(0), BAD);
    x.come(l, 1);
    due("byteOf(-1)", x.byteOf(-1), BAD);
    due("byteOf(2)", x.byteOf(2), 3);
    due("byteOf(3)", x.byteOf(3), BAD);
    due("byteOf(40)", x.byteOf(40), BAD);
    due("byteOf(MAX)", x.byteOf(Integer.MAX_VALUE), BAD);
    due("byteOf(MIN)", x.byteOf(Integer.MIN_VALUE), BAD);
    x.come(l, 1);
    due("it stays with a fault", x.byteOf(2), 3);
    x.come(m, 1);
    due("a shorter one", x.byteOf(2), BAD);
    due("a shorter one", x.byteOf(1), 2);
  }

  private static void copy() {
    RatchetPost x = registered(2, 140);
    due("copy(0) of none", x.copy(0), BAD);
    int l = send(x, 0, 1, 4);
    due("copy(-1)", x.copy(-1), BAD);
    due("copy(1)", x.copy(1), BAD);
    due("copy(0)", x.copy(l), 1);
    for (int i = -1; i < 50; i++) due("byte " + i, x.letter(1, i), x.letter(0, i));
    x.spoil(1, 40, 9);
    due("the first is as it was", x.letter(0, 40) ^ 9, x.letter(1, 40));
    due("a copy of what it is now", x.copy(1), 2);
    due("spoilt likewise", x.letter(2, 40), x.letter(1, 40));
    for (int i = 3; i < 80; i++) due("copy", x.copy(0), i);
    due("copy of 80", x.copy(0), FULL);
    due("copy of none such", x.copy(80), BAD);
    due("come", x.come(79, 1), 4);
    due("come", x.come(0, 1), -16);
  }

  private static void spoil() {
    RatchetPost x = registered(2, 150);
    due("spoil of none", x.spoil(0, 0, 1), BAD);
    int l = send(x, 0, 1, 4), size = x.letter(l, -1);
    int[][] wrongs = {{-1, 0, 1}, {1, 0, 1}, {0, -1, 1}, {0, size, 1}, {0, 0, 0}, {0, 0, 256}, {0, 0, -1}, {0, Integer.MIN_VALUE, 1}, {0, Integer.MAX_VALUE, 1}};
    for (int[] w : wrongs) due("spoil", x.spoil(w[0], w[1], w[2]), BAD);
    for (int place : new int[] {0, 1, size / 2, size - 1}) {
      int was = x.letter(l, place);
      due("spoil", x.spoil(l, place, 255), was ^ 255);
      due("letter", x.letter(l, place), was ^ 255);
      due("spoil", x.spoil(l, place, 254), was ^ 1);
      due("spoil", x.spoil(l, place, 1), was);
    }
    due("come", x.come(l, 1), 4);
  }

  private static void letter() {
    RatchetPost x = registered(2, 160);
    due("letter(0, 0) of none", x.letter(0, 0), BAD);
    int l = send(x, 0, 1, 1);
    due("letter(0, -1)", x.letter(l, -1), 45);
    due("letter(0, -2)", x.letter(l, -2), BAD);
    due("letter(0, 0)", x.letter(l, 0), 1);
    due("letter(0, 2)", x.letter(l, 2), 1);
    due("letter(0, 45)", x.letter(l, 45), BAD);
    due("letter(1, -1)", x.letter(1, -1), BAD);
    due("letter(-1, -1)", x.letter(-1, -1), BAD);
    due("letter(0, MIN)", x.letter(l, Integer.MIN_VALUE), BAD);
    due("letter(0, MAX)", x.letter(l, Integer.MAX_VALUE), BAD);
    for (int i = 0; i < 45; i++) due("a byte", x.letter(l, i) >= 0 && x.letter(l, i) < 256 ? 1 : 0, 1);
  }

  private static void forge() {
    RatchetPost x = new RatchetPost(2, 170);
    due("forge of none REGISTERED", x.forge(0, 5), BAD);
    x.register(0);
    x.register(1);
    long p = (1L << 61) - 1, was = x.number(1, 1), r = x.number(1, 2), t = x.number(1, 3);
    due("forge(-1, 5)", x.forge(-1, 5), BAD);
    due("forge(2, 5)", x.forge(2, 5), BAD);
    for (long wrongOne : new long[] {0, -1, p, p + 1, Long.MAX_VALUE, Long.MIN_VALUE}) due("forge(1, " + wrongOne + ")", x.forge(1, wrongOne), BAD);
    due("LENT", x.number(1, 1), was);
    for (long rightOne : new long[] {1, p - 1, 12345}) {
      due("forge(1, " + rightOne + ")", x.forge(1, rightOne), 1);
      due("LENT", x.number(1, 1), rightOne);
      due("begin", x.begin(0, 1), SEAL);
    }
    due("R", x.number(1, 2), r);
    due("t", x.number(1, 3), t);
    due("LENT key", x.user(1, 1), 1);
    due("forge back", x.forge(1, was), 1);
    due("begin", x.begin(0, 1), 1);
    due("come", x.come(send(x, 0, 1, 3), 1), 3);
  }

  private static void user() {
    RatchetPost x = new RatchetPost(3, 180);
    for (int what : new int[] {-1, 8, Integer.MIN_VALUE, Integer.MAX_VALUE}) due("user(0, " + what + ")", x.user(0, what), BAD);
    due("user(-1, 0)", x.user(-1, 0), BAD);
    due("user(3, 0)", x.user(3, 0), BAD);
    for (int u = 0; u < 3; u++) x.register(u);
    x.publish(1, 4);
    x.rotate(1);
    x.come(send(x, 0, 1, 1), 1);
    x.come(send(x, 2, 1, 1), 1);
    x.begin(1, 2);
    x.begin(0, 1);
    int[] want = {1, 2, 1, 4, 4, 13, 2, 3};
    for (int what = 0; what < 8; what++) due("user(1, " + what + ")", x.user(1, what), want[what]);
    x.begin(0, 1);
    due("none there", x.user(1, 2), 0);
    due("no least", x.user(1, 3), 0);
    due("SECRETS", x.user(1, 6), 2);
    x.forget(1, 2);
    due("sessions", x.user(1, 7), 1);
  }

  private static void number() {
    RatchetPost x = new RatchetPost(2, 190);
    for (int what = -1; what < 6; what++) due("number of none REGISTERED", x.number(0, what), 0);
    x.register(0);
    x.register(1);
    x.publish(1, 2);
    due("number(-1, 0)", x.number(-1, 0), 0);
    due("number(2, 0)", x.number(2, 0), 0);
    for (int what : new int[] {-1, 5, Integer.MIN_VALUE, Integer.MAX_VALUE}) due("number(1, " + what + ")", x.number(1, what), 0);
    due("IDENTITY", x.number(1, 0), open(secret(191, 1)));
    due("LENT", x.number(1, 1), open(secret(191, 2)));
    due("R", x.number(1, 2), open(secret(191, 3)));
    due("t", x.number(1, 3), proof(191, 3, x.number(1, 1)));
    due("ONCE", x.number(1, 4), open(secret(191, 4)));
    x.begin(0, 1);
    due("ONCE", x.number(1, 4), open(secret(191, 5)));
    x.begin(0, 1);
    due("ONCE", x.number(1, 4), 0);
    due("ONCE of who has none", x.number(0, 4), 0);
  }

  private static void session() {
    RatchetPost x = registered(3, 200);
    due("none", x.session(0, 1, 0, 0), BAD);
    due("how many", x.session(0, 1, -1, 0), 0);
    int l = send(x, 0, 1, 1), m = send(x, 0, 1, 1), n = send(x, 0, 1, 1);
    int[] want = {3, 0, 0, 0, 1, 1, 1, 0};
    for (int what = 0; what < 8; what++) due("session(0, 1, 0, " + what + ")", x.session(0, 1, 0, what), want[what]);
    x.come(n, 1);
    x.come(m, 1);
    send(x, 1, 0, 1);
    int[] other = {1, 3, 0, 1, 0, 0, 1, 1};
    for (int what = 0; what < 8; what++) due("session(1, 0, 0, " + what + ")", x.session(1, 0, 0, what), other[what]);
    x.come(3, 0);
    int[] turned = {0, 1, 3, 0, 0, 1, 1, 1};
    for (int what = 0; what < 8; what++) due("session(0, 1, 0, " + what + ")", x.session(0, 1, 0, what), turned[what]);
    due("come", x.come(l, 1), 1);
    for (int[] w : new int[][] {{0, 1, 1, 0}, {0, 1, -1, 1}, {0, 1, -2, 0}, {0, 1, 0, -1}, {0, 1, 0, 8}, {0, 0, 0, 0}, {0, 0, -1, 0},
        {-1, 0, -1, 0}, {3, 0, -1, 0}, {0, 3, -1, 0}, {0, -1, -1, 0}, {0, 1, 4, 0}, {0, 1, Integer.MAX_VALUE, 0}, {0, 1, Integer.MIN_VALUE, 0}})
      due("session(" + w[0] + ", " + w[1] + ", " + w[2] + ", " + w[3] + ")", x.session(w[0], w[1], w[2], w[3]), BAD);
    due("how many", x.session(0, 1, -1, 0), 1);
    due("how many", x.session(2, 1, -1, 0), 0);
  }

  private static void inside() {
    RatchetPost x = registered(2, 210);
    int l = send(x, 0, 1, 1);
    due("own", x.inside(0, 1, 0, 3), open(secret(210, 5)));
    due("the other's", x.inside(0, 1, 0, 4), x.number(1, 1));
    due("RECEIVING", x.inside(0, 1, 0, 2), 0);
    long root = x.inside(0, 1, 0, 0), sending = x.inside(0, 1, 0, 1);
    x.come(l, 1);
    BigInteger pair = secret(211, 4);
    long mixed = common(pair, open(secret(210, 5)));
    due("ROOT of the other side", x.inside(1, 0, 0, 0), key(1, root, mixed));
    due("SENDING", x.inside(1, 0, 0, 1), key(2, root, mixed));
    due("RECEIVING", x.inside(1, 0, 0, 2), sending);
    due("own", x.inside(1, 0, 0, 3), open(pair));
    due("the other's", x.inside(1, 0, 0, 4), open(secret(210, 5)));
    for (int[] w : new int[][] {{0, 1, 1, 0}, {0, 1, -1, 0}, {0, 1, 0, -1}, {0, 1, 0, 5}, {0, 0, 0, 0}, {-1, 0, 0, 0}, {2, 0, 0, 0}, {0, 2, 0, 0}, {0, -1, 0, 0}})
      due("inside", x.inside(w[0], w[1], w[2], w[3]), 0);
  }

  private static void same() {
    RatchetPost x = registered(3, 220);
    due("none", x.same(0, 1, 0, 0), BAD);
    int l = send(x, 0, 1, 1);
    due("none at the other side", x.same(0, 1, 0, 0), BAD);
    due("none at this side", x.same(1, 0, 0, 0), BAD);
    x.come(l, 1);
    due("same", x.same(0, 1, 0, 0), 1);
    due("same", x.same(1, 0, 0, 0), 1);
    x.begin(0, 1);
    due("same", x.same(0, 1, 0, 0), 0);
    due("same", x.same(0, 1, 1, 0), 1);
    due("same", x.same(1, 0, 0, 1), 1);
    x.begin(1, 0);
    due("begun by both", x.same(0, 1, 0, 0), 0);
    x.come(send(x, 0, 1, 1), 1);
    due("same", x.same(0, 1, 0, 0), 1);
    for (int[] w : new int[][] {{0, 1, 2, 0}, {0, 1, 0, 3}, {0, 1, -1, 0}, {0, 1, 0, -1}, {0, 0, 0, 0}, {-1, 0, 0, 0}, {0, 3, 0, 0}, {3, 0, 0, 0}, {0, -1, 0, 0}})
      due("same", x.same(w[0], w[1], w[2], w[3]), BAD);
  }

  private static void look() {
    RatchetPost x = new RatchetPost(2, 230);
    due("look(-1)", x.look(-1), BAD);
    due("look(2)", x.look(2), BAD);
    due("look(0)", x.look(0), 1);
    due("look(0)", x.look(0), 2);
    x.register(0);
    x.register(1);
    String before = state(x).substring(6);
    due("look(1)", x.look(1), 3);
    due("count", x.count(2), 3);
    due("nothing else is other", state(x).substring(6).equals(before) ? 1 : 0, 1);
    RatchetPost y = registered(2, 230);
    int l = send(y, 0, 1, 1);
    due("not LOOKED", y.readable(l), 0);
    y.look(1);
    due("LOOKED", y.readable(l), 1);
  }

  private static void readable() {
    RatchetPost x = registered(3, 240);
    due("readable(0) of none", x.readable(0), BAD);
    int a = send(x, 0, 1, 1), b = send(x, 0, 1, 1);
    due("readable(-1)", x.readable(-1), BAD);
    due("readable(2)", x.readable(2), BAD);
    due("readable", x.readable(a), 0);
    x.look(2);
    due("who LOOKED elsewhere", x.readable(a), 0);
    x.look(0);
    due("before the SENDING chain's place", x.readable(a), 0);
    due("before the SENDING chain's place", x.readable(b), 0);
    int c = send(x, 0, 1, 1), copied = x.copy(c);
    due("behind it", x.readable(c), 1);
    due("a copy", x.readable(copied), 1);
    x.spoil(copied, 0, 255);
    due("as it was written", x.readable(copied), 1);
    due("a copy's copy", x.readable(x.copy(copied)), 1);
    due("a copy of the other", x.readable(x.copy(a)), 0);
    x.forget(0, 1);
    due("what was got stays got", x.readable(c), 1);
    int d = send(x, 0, 1, 1);
    due("another session", x.readable(d), 0);
    x.look(1);
    due("SECRETS of IDENTITY and LENT key", x.readable(a) + x.readable(b) + x.readable(d), 3);
  }

  private static void readableOnce() {
    RatchetPost x = registered(2, 241);
    x.look(1);
    x.publish(1, 2);
    int a = send(x, 0, 1, 1);
    due("without the ONCE key", x.readable(a), 0);
    x.come(a, 1);
    x.look(1);
    due("it was used", x.readable(a), 0);
    int b = send(x, 0, 1, 1);
    due("the RECEIVING chain", x.readable(b), 1);
    x.begin(0, 1);
    int c = send(x, 0, 1, 1);
    due("the ONCE key is kept", x.readable(c), 1);
    x.come(c, 1);
    due("it stays got", x.readable(c), 1);
    x.begin(0, 1);
    due("no ONCE key needs nothing", x.readable(send(x, 0, 1, 1)), 1);
    RatchetPost y = registered(2, 241);
    y.publish(1, 1);
    y.forge(1, 5);
    y.begin(0, 1);
    y.look(1);
    y.rotate(1);
    due("another LENT key", y.readable(send(y, 0, 1, 1)), 0);
  }

  /** Two turns behind a LOOK nothing can be read any more. */
  private static void readableHeals() {
    RatchetPost x = registered(2, 242);
    int a = send(x, 0, 1, 1);
    x.come(a, 1);
    int b = send(x, 1, 0, 1);
    x.come(b, 0);
    x.look(0);
    due("read", x.readable(a), 0);
    due("read", x.readable(b), 0);
    int c = send(x, 0, 1, 1);
    due("SENDING", x.readable(c), 1);
    x.come(c, 1);
    int d = send(x, 1, 0, 1);
    due("own SECRET and ROOT", x.readable(d), 1);
    x.come(d, 0);
    int e = send(x, 0, 1, 1);
    due("a new pair on both sides", x.readable(e), 0);
    x.come(e, 1);
    int f = send(x, 1, 0, 1);
    due("and so on", x.readable(f), 0);
    x.look(1);
    due("the second LOOK", x.readable(f), 0);
    due("what is written behind it", x.readable(send(x, 1, 0, 1)), 1);
    due("between both", x.readable(e), 0);
  }

  private static void readableKept() {
    RatchetPost x = registered(2, 243);
    x.publish(1, 1);
    int[] l = new int[5];
    for (int i = 0; i < 5; i++) l[i] = send(x, 0, 1, 1);
    x.come(l[3], 1);
    x.come(l[1], 1);
    x.look(1);
    int[] want = {1, 0, 1, 0, 1};
    for (int i = 0; i < 5; i++) due("letter " + i, x.readable(l[i]), want[i]);
    x.come(l[0], 1);
    due("it stays got", x.readable(l[0]), 1);
    RatchetPost y = registered(2, 243);
    y.publish(1, 1);
    for (int i = 0; i < 3; i++) l[i] = send(y, 0, 1, 1);
    y.come(l[2], 1);
    y.forget(1, 0);
    y.look(1);
    for (int i = 0; i < 3; i++) due("RETIRED", y.readable(l[i]), 0);
  }

  private static void readableLent() {
    for (int turns = 0; turns < 3; turns++) {
      RatchetPost x = registered(2, 244);
      int a = send(x, 0, 1, 1);
      x.come(a, 1);
      int b = send(x, 1, 0, 1);
      for (int i = 0; i < turns; i++) x.rotate(1);
      x.forget(1, 0);
      x.look(1);
      due("LENT key of the newest two, " + turns, x.readable(a), turns < 2 ? 1 : 0);
      due("its answer needs a pair's SECRET", x.readable(b), 0);
    }
    // Both SECRETS of the second turn are gone, but one of them is got while its session is there.
    RatchetPost x = registered(2, 245);
    int a = send(x, 0, 1, 1);
    x.look(0);
    x.forget(0, 1);
    x.come(a, 1);
    int b = send(x, 1, 0, 1);
    due("ROOT and own SECRET at the beginner", x.readable(b), 1);
    due("its first letter was gone by", x.readable(a), 0);
    // IDENTITY of the one, at another LOOK the LENT key of the other: pieces of several LOOKS go together.
    RatchetPost y = registered(2, 246);
    y.look(1);
    y.rotate(1);
    y.rotate(1);
    int c = send(y, 0, 1, 1);
    due("LENT key is newer than the LOOK", y.readable(c), 0);
    y.come(c, 1);
    y.look(1);
    due("LENT key is got", y.readable(c), 1);
  }

  /** Another number for which the SEAL of a user's LENT key is RIGHT, as its e is the same modulo Q; 0 if there is none. */
  private static long numberOfSameSeal(RatchetPost x, int u) {
    long lent = x.number(u, 1), r = x.number(u, 2), a = mix(0, r);
    long g = (a ^ 0x5851F42D4C957F2DL) * 0x9E3779B97F4A7C15L;
    BigInteger odd = plain(0xD6E8FEB86659FD93L), word = BigInteger.TWO.pow(64);
    for (BigInteger z = plain(mix(a, lent)).mod(Q); z.compareTo(word) < 0; z = z.add(Q)) {
      long h = z.longValue();
      h = h ^ h >>> 29 ^ h >>> 58;
      h = BigInteger.valueOf(h).multiply(odd.modInverse(word)).longValue() - (g ^ g >>> 32);
      if (h > 0 && h < P.longValue() && h != lent) return h;
    }
    return 0;
  }

  private static void readableForged() {
    due("a number of the issue", numberOfSameSeal(registered(2, 1), 1), 135345720259645515L);
    int forged = 0;
    for (int seed = 250; seed < 260; seed++) {
      RatchetPost x = registered(2, seed);
      long right = x.number(1, 1), other = numberOfSameSeal(x, 1);
      if (other == 0) continue;
      forged++;
      x.forge(1, other);
      int a = send(x, 0, 1, 1);
      due("the other's", x.inside(0, 1, 0, 4), other);
      x.look(1);
      due("nobody has the forged number's SECRET", x.readable(a), 0);
      refused(x, a, 1, -14);
      int b = send(x, 0, 1, 1);
      x.look(0);
      due("before the SENDING chain's place", x.readable(b), 0);
      due("behind it", x.readable(send(x, 0, 1, 1)), 1);
      x.forge(1, right);
      x.begin(0, 1);
      due("of the right number", x.readable(send(x, 0, 1, 1)), 1);
    }
    due("forged numbers were found", forged > 3 ? 1 : 0, 1);
  }

  private static BigInteger identityOf(int seed) { return secret(seed, 1); }

  private static BigInteger lentOf(int seed) { return secret(seed, 2); }

  /** The first ROOT as who opens a letter works it out, with the numbers that stand in it now. */
  private static long rootAtReader(RatchetPost x, int letter, BigInteger identity, BigInteger lent, BigInteger once) {
    long from = bytesOf(x, letter, 3, 8), e = bytesOf(x, letter, 11, 8);
    return sum(common(lent, from), common(identity, e), common(lent, e), once == null ? 0 : common(once, e));
  }

  /** The letter's TAG becomes the right one for a SESSION that turns from this ROOT by its own SECRET. */
  private static void retag(RatchetPost x, int letter, long root, BigInteger own) {
    int head = x.letter(letter, 0) == 1 ? 23 : 3, size = x.letter(letter, -1);
    long chain = key(2, root, common(own, bytesOf(x, letter, head, 8)));
    for (long n = bytesOf(x, letter, head + 10, 2); n > 0; n--) chain = key(4, chain, 0);
    long[] before = new long[size - 8];
    for (int i = 0; i < size - 8; i++) before[i] = x.letter(letter, i);
    overwrite(x, letter, size - 8, key(6, key(3, chain, 0), sum(before)), 8);
  }

  /** The PUBLIC number in the HEAD becomes one that nobody, or another user, has the SECRET of. */
  private static void readableSpoiltHead() {
    for (int looked = 0; looked < 2; looked++) {
      RatchetPost x = registered(3, 260);
      if (looked == 1) x.look(1);
      int a = send(x, 0, 1, 1);
      overwrite(x, a, 23, looked == 1 ? x.number(2, 0) : 7, 8);
      retag(x, a, rootAtReader(x, a, identityOf(261), lentOf(261), null), lentOf(261));
      due("come", x.come(a, 1), 1);
      due("the other's", x.inside(1, 0, 0, 4), bytesOf(x, a, 23, 8));
      int b = send(x, 1, 0, 1);
      due("the new pair's SECRET is not got", x.readable(b), 0);
      x.look(0);
      due("the writer's SECRET is of another number", x.readable(b), 0);
      x.look(2);
      due("the IDENTITY of another one", x.readable(b), looked);
      x.look(1);
      due("who opened it keeps IDENTITY, LENT key and the new pair", x.readable(b), 1);
      due("SENDING", x.readable(send(x, 1, 0, 1)), 1);
    }
    // Spoilt back to what it was it is opened as if nothing had been.
    RatchetPost y = registered(2, 262);
    int a = send(y, 0, 1, 1);
    long was = bytesOf(y, a, 23, 8);
    overwrite(y, a, 23, 7, 8);
    overwrite(y, a, 23, was, 8);
    y.come(a, 1);
    int b = send(y, 1, 0, 1);
    y.look(0);
    due("the writer's SECRET", y.readable(b), 1);
  }

  /** The IDENTITY, e, the LENT key's or the ONCE key's number becomes another one: so does the ROOT at who opens it. */
  private static void readableSpoiltBeginning() {
    int[][] spoilt = {{3, 8, 7}, {11, 8, 7}, {19, 2, 1}, {21, 2, 0}, {21, 2, 2}};
    for (int[] s : spoilt) {
      RatchetPost x = registered(2, 270);
      x.publish(1, 2);
      x.rotate(1);
      int a = send(x, 0, 1, 1);
      overwrite(x, a, s[0], s[2], s[1]);
      BigInteger lent = s[0] == 19 ? lentOf(271) : secret(271, 6);
      BigInteger once = s[0] == 21 ? s[2] == 0 ? null : secret(271, 5) : secret(271, 4);
      retag(x, a, rootAtReader(x, a, identityOf(271), lent, once), lent);
      due("come", x.come(a, 1), 1);
      due("began from one secret", x.same(0, 1, 0, 0), 0);
      due("SECRETS of ONCE keys", x.user(1, 6), s[0] == 21 && s[2] == 0 ? 2 : 1);
      int b = send(x, 1, 0, 1), c = send(x, 0, 1, 1);
      x.look(0);
      due("the writer's ROOT is another one, " + s[0] + " " + s[2], x.readable(b), 0);
      due("the writer's letters are of that, " + s[0] + " " + s[2], x.readable(c), 0);
      int d = send(x, 0, 1, 1);
      due("SENDING, " + s[0] + " " + s[2], x.readable(d), 1);
      x.look(1);
      // Without the ONCE key that was used the writer's ROOT is not worked out; one that was not used is still kept.
      due("what who opens it keeps, " + s[0] + " " + s[2], x.readable(a), s[0] == 21 ? 1 : 0);
    }
    RatchetPost y = registered(2, 280);
    y.look(1);
    y.publish(1, 1);
    int a = send(y, 0, 1, 1);
    overwrite(y, a, 21, 0, 2);
    retag(y, a, rootAtReader(y, a, identityOf(281), lentOf(281), null), lentOf(281));
    y.come(a, 1);
    int b = send(y, 1, 0, 1);
    due("neither pair's SECRET", y.readable(b), 0);
    y.look(0);
    due("a ROOT of three COMMONS, and a pair's SECRET", y.readable(b), 1);
    due("the writer's is of four", y.readable(a), 0);
  }

  /** KEPT keys of a chain that came of a spoilt number are not those of the writer's chain. */
  private static void readableSpoiltKept() {
    for (int spoilt = 0; spoilt < 2; spoilt++) {
      RatchetPost x = registered(2, 290);
      x.publish(1, 1);
      int a = send(x, 0, 1, 1), b = send(x, 0, 1, 1), c = send(x, 0, 1, 1), d = send(x, 0, 1, 1);
      if (spoilt == 1) {
        overwrite(x, c, 23, 7, 8);
        retag(x, c, rootAtReader(x, c, identityOf(291), lentOf(291), secret(291, 4)), lentOf(291));
      }
      due("come", x.come(c, 1), 1);
      due("KEPT", x.session(1, 0, 0, 3), 2);
      x.look(1);
      due("KEPT keys", x.readable(a) + x.readable(b), spoilt == 1 ? 0 : 2);
      due("RECEIVING", x.readable(d), 1 - spoilt);
      due("its own is gone by", x.readable(c), 0);
    }
    // Of two KEPT keys with one PUBLIC number and place the one that was KEPT first is taken.
    RatchetPost y = registered(2, 292);
    int a = send(y, 0, 1, 1), b = send(y, 0, 1, 1), c = send(y, 0, 1, 1);
    due("come", y.come(b, 1), 1);
    long first = bytesOf(y, b, 23, 8);
    for (long p : new long[] {7, first}) {
      long root = y.inside(1, 0, 0, 0);
      BigInteger own = secret(293, y.user(1, 5));
      overwrite(y, c, 23, p, 8);
      retag(y, c, root, own);
      due("come", y.come(c, 1), 1);
    }
    due("KEPT", y.session(1, 0, 0, 3), 5);
    due("the older of two", y.come(a, 1), 1);
    due("KEPT", y.session(1, 0, 0, 3), 4);
    refused(y, a, 1, -14);
  }

  /** A letter's bytes become those of another SESSION's letter: it is opened as that one. */
  private static void readableOtherBytes() {
    RatchetPost x = registered(2, 300);
    int a = send(x, 0, 1, 1);
    x.look(0);
    x.begin(0, 1);
    int b = send(x, 0, 1, 1);
    for (int i = 0; i < x.letter(b, -1); i++) overwrite(x, a, i, x.letter(b, i), 1);
    due("come", x.come(a, 1), 1);
    due("began from one secret", x.same(0, 1, 0, 0), 1);
    int c = send(x, 1, 0, 1);
    due("the LOOK was before that SESSION", x.readable(c), 0);
    x.look(0);
    due("this one was not", x.readable(c), 1);
    due("as they were written", x.readable(a) + x.readable(b), 0);
  }

  private static void count() {
    RatchetPost x = registered(2, 250);
    for (int what : new int[] {-1, 5, Integer.MIN_VALUE, Integer.MAX_VALUE}) due("count(" + what + ")", x.count(what), BAD);
    int l = send(x, 0, 1, 7);
    x.copy(l);
    x.copy(1);
    x.look(0);
    type(x, 33);
    x.come(2, 1);
    int[] want = {3, 2, 1, 7, 33};
    for (int what = 0; what < 5; what++) due("count(" + what + ")", x.count(what), want[what]);
    x.come(2, 1);
    due("READING stays", x.count(3), 7);
  }
}
