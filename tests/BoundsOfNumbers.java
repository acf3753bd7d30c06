import java.math.BigInteger;
import java.util.function.ObjIntConsumer;

/** Part 1 of the document's terms: what is not 1 .. P - 1, products that wrap, without sign, modulo. */
public final class BoundsOfNumbers extends Check {
  private static final long[] NOT_OPEN = {0, LAST + 1, LAST + 2, LAST + 3, LAST + 4, 1L << 62, Long.MAX_VALUE, Long.MIN_VALUE, -LAST, -1};
  private static final long[] OPEN = {1, 2, 3, LAST - 1, LAST};
  private static final BigInteger TWO = BigInteger.TWO;
  /** Of P - 1 the COMMON is 1 by an even SECRET, P - 1 by an odd one: so each kind of SECRETS has its turn. */
  private static final int FIRST_SEED = 400, LAST_SEED = 406;

  public static void main(String[] args) {
    for (int seed = FIRST_SEED; seed <= LAST_SEED; seed++) {
      of("1: THE COMMON of what is not 1 .. P - 1: 0; the PUBLIC number of a HEAD"); head(seed);
      of("1: THE COMMON of what is not 1 .. P - 1: 0; the IDENTITY that stands in the letter"); identity(seed);
      of("1: THE COMMON of what is not 1 .. P - 1: 0; e's PUBLIC number"); beginning(seed);
      of("1: THE COMMON of what is not 1 .. P - 1: 0; a HEAD that turns a SESSION that is there"); answer(seed);
    }
    of("1: SECRETS of both kinds were there"); bothKinds();
    of("1: THE COMMON is 1, modulo P"); commonOfOne();
    of("1: THE COMMON of 1 .. P - 1 is that to the power of the SECRET"); powers();
    of("1: MIX: products wrap, shifts are without sign"); mixes();
    of("1: a SECRET drawn is without sign, modulo Q - 1, and 1"); secrets();
    of("1: e is without sign modulo Q, t modulo Q"); seals();
    of("1: a SEAL is RIGHT, if 3 to the t is R times Y to the e"); rightSeals();
    end("all bounds of numbers hold");
  }

  /** The letter at this place becomes each number in turn, with a TAG that is right if its COMMONS are as they must be. */
  private static void eachNumber(Post x, int place, ObjIntConsumer<Post> retagAndCheck) {
    int letter = x.count(0) - 1;
    for (long[] numbers : new long[][] {NOT_OPEN, OPEN}) {
      for (long number : numbers) {
        Post z = x.twin();
        z.overwrite(letter, place, number, 8);
        retagAndCheck.accept(z, letter);
      }
    }
  }

  private static void openNew(Post z, int letter, int seed, BigInteger once) {
    BigInteger lent = lentOf(seed + 1);
    long root = z.rootAtReader(letter, identityOf(seed + 1), lent, once);
    z.retagTurning(letter, root, lent);
    long p = z.bytesOf(letter, 23, 8), chain = z.chainOf(letter, root, lent);
    String what = "with " + p + " and e " + z.bytesOf(letter, 11, 8) + " and IDENTITY " + z.bytesOf(letter, 3, 8);
    due("come " + what, z.come(letter, 1), 3);
    checkTurned(z, 1, 0, root, lent, p, secret(seed + 1, z.user(1, 5)), what);
    due("RECEIVING " + what, z.inside(1, 0, 0, 2), key(4, chain, 0));
  }

  /** A SESSION that turned from this ROOT by its own SECRET, and then by its new pair. */
  private static void checkTurned(Post z, int u, int v, long root, BigInteger own, long p, BigInteger pair, String what) {
    long turned = key(1, root, common(own, p));
    due("the other's " + what, z.inside(u, v, 0, 4), p);
    due("own " + what, z.inside(u, v, 0, 3), open(pair));
    due("SENDING " + what, z.inside(u, v, 0, 1), key(2, turned, common(pair, p)));
    due("ROOT " + what, z.inside(u, v, 0, 0), key(1, turned, common(pair, p)));
  }

  private static void head(int seed) {
    Post x = Post.registered(2, seed);
    x.send(0, 1, 3);
    eachNumber(x, 23, (z, l) -> openNew(z, l, seed, null));
  }

  private static void identity(int seed) {
    Post x = Post.registered(2, seed);
    x.publish(1, 1);
    x.send(0, 1, 3);
    eachNumber(x, 3, (z, l) -> openNew(z, l, seed, secret(seed + 1, 4)));
  }

  private static void beginning(int seed) {
    Post x = Post.registered(2, seed);
    x.send(0, 1, 3);
    eachNumber(x, 11, (z, l) -> openNew(z, l, seed, null));
    Post y = Post.registered(2, seed);
    y.publish(1, 1);
    y.send(0, 1, 3);
    eachNumber(y, 11, (z, l) -> openNew(z, l, seed, secret(seed + 1, 4)));
  }

  private static void answer(int seed) {
    Post x = Post.registered(2, seed);
    x.deliver(0, 1, 1);
    x.send(1, 0, 2);
    eachNumber(x, 3, (z, l) -> {
      long root = z.inside(0, 1, 0, 0), p = z.bytesOf(l, 3, 8);
      BigInteger own = secret(seed, 5);
      z.retagTurning(l, root, own);
      due("come with " + p, z.come(l, 0), 2);
      checkTurned(z, 0, 1, root, own, p, secret(seed, 6), "with " + p);
      // Who has met such a number goes on with it: the next letter of that chain is no turn.
      int next = z.copy(l);
      z.overwrite(next, 13, 1, 2);
      z.retagTurning(next, root, own);
      due("the next one with " + p, z.come(next, 0), 2);
      due("NR with " + p, z.session(0, 1, 0, 1), 2);
      due("no draw more with " + p, z.user(0, 5), 6);
    });
  }

  private static void bothKinds() {
    for (int draw : new int[] {1, 2, 4}) {
      int odd = 0;
      for (int seed = FIRST_SEED + 1; seed <= LAST_SEED + 1; seed++) odd += secret(seed, draw).mod(TWO).intValue();
      holds("draw " + draw, odd > 0 && odd < LAST_SEED - FIRST_SEED + 1);
    }
  }

  /** A number whose power of a small order is 1: then products come out as 1, at the end of what modulo P leaves. */
  private static void commonOfOne() {
    int ones = 0;
    for (int order : new int[] {2, 3, 5, 6, 7, 9, 10, 11, 13, 14, 15}) {
      long root = open(Q.divide(BigInteger.valueOf(order)));
      for (int seed = 420; seed < 450; seed++) {
        BigInteger lent = lentOf(seed + 1);
        if (common(lent, root) != 1) continue;
        ones++;
        Post x = Post.registered(2, seed);
        int l = x.send(0, 1, 3);
        x.overwrite(l, 23, root, 8);
        openNew(x, l, seed, null);
        Post y = Post.registered(2, seed);
        y.overwrite(y.send(0, 1, 3), 11, root, 8);
        openNew(y, 0, seed, null);
      }
    }
    holds("COMMONS that are 1 were there", ones > 30);
  }

  private static void powers() {
    for (int seed = 500; seed < 512; seed++) {
      Post x = Post.registered(2, seed);
      x.publish(1, 1);
      x.begin(0, 1);
      BigInteger e = secret(seed, 4), pair = secret(seed, 5);
      long lent = x.number(1, 1), once = open(secret(seed + 1, 4));
      long root = sum(common(identityOf(seed), lent), common(e, x.number(1, 0)), common(e, lent), common(e, once));
      due("ROOT", x.inside(0, 1, 0, 0), key(1, root, common(pair, lent)));
      due("SENDING", x.inside(0, 1, 0, 1), key(2, root, common(pair, lent)));
      due("own", x.inside(0, 1, 0, 3), open(pair));
    }
  }

  /** MIX with BigIntegers: nothing in it can have a sign, and what passes 64 bits is cut off. */
  private static BigInteger plainMix(BigInteger a, BigInteger b) {
    BigInteger word = BigInteger.TWO.pow(64);
    BigInteger h = a.xor(plain(0x5851F42D4C957F2DL)).multiply(plain(0x9E3779B97F4A7C15L)).mod(word);
    h = h.xor(h.shiftRight(32)).add(b).mod(word);
    h = h.multiply(plain(0xD6E8FEB86659FD93L)).mod(word);
    return h.xor(h.shiftRight(29));
  }

  private static void mixes() {
    BigInteger word = BigInteger.TWO.pow(64), rest = Q.subtract(BigInteger.ONE);
    int negative = 0;
    for (int seed : new int[] {Integer.MIN_VALUE, -3, -2, -1, 0, 1, 2, 3, 7, 100, Integer.MAX_VALUE}) {
      Post x = Post.registered(2, seed);
      x.publish(0, 12);
      for (int i = 1; i <= 15; i++) {
        BigInteger drawn = plainMix(BigInteger.valueOf(seed).mod(word), BigInteger.valueOf(i));
        due("MIX of " + seed + " and " + i, mix(seed, i), drawn.longValue());
        if (drawn.testBit(63)) negative++;
        long number = open(drawn.mod(rest).add(BigInteger.ONE));
        if (i <= 3) due("draw " + i + " of " + seed, x.number(0, i - 1), number);
        if (i > 3) due("draw " + i + " of " + seed, x.number(0, 4), number);
        if (i > 3) x.begin(1, 0);
      }
    }
    holds("draws of both signs", negative > 20 && negative < 145);
  }

  private static void secrets() {
    int[] seen = new int[9];
    BigInteger rest = Q.subtract(BigInteger.ONE);
    for (int seed = -60; seed < 60; seed += 6) {
      Post x = Post.registered(6, seed);
      for (int u = 0; u < 6; u++) {
        seen[plain(mix(seed + u, 1)).divide(rest).intValue()]++;
        due("IDENTITY of SEED " + (seed + u), x.number(u, 0), open(identityOf(seed + u)));
        due("LENT of SEED " + (seed + u), x.number(u, 1), open(lentOf(seed + u)));
        due("R of SEED " + (seed + u), x.number(u, 2), open(secret(seed + u, 3)));
      }
    }
    for (int times = 0; times < 8; times++) holds("draws of " + times + " times Q - 1 and more", seen[times] > 0);
  }

  private static void seals() {
    int negative = 0, all = 0;
    for (int seed = 1000; seed < 1120; seed += 6) {
      Post x = Post.registered(6, seed);
      for (int u = 0; u < 6; u++) {
        all++;
        if (sum(x.number(u, 2), x.number(u, 1)) < 0) negative++;
        due("t of SEED " + (seed + u), x.number(u, 3), proof(seed + u, 3, x.number(u, 1)));
        holds("t is 0 .. Q - 1", x.number(u, 3) >= 0 && x.number(u, 3) < Q.longValue());
        x.rotate(u);
        due("t of LENT key 2", x.number(u, 3), proof(seed + u, x.user(u, 5), x.number(u, 1)));
        due("it is RIGHT", x.begin((u + 1) % 6, u), 1);
      }
    }
    holds("SUMS of both signs", negative > 10 && negative < all - 10);
  }

  private static void rightSeals() {
    int found = 0;
    for (int seed = 600; seed < 620; seed++) {
      Post x = Post.registered(2, seed);
      long lent = x.number(1, 1), other = numberOfSameSeal(lent, x.number(1, 2));
      for (long number : new long[] {1, 3, lent - 1, lent + 1, LAST + 1 - lent, x.number(1, 0), x.number(1, 2), LAST}) {
        if (number == lent || number < 1 || number > LAST) continue;
        x.forge(1, number);
        due("begin with " + number + " for " + lent, x.begin(0, 1), SEAL);
      }
      if (other != 0) {
        found++;
        x.forge(1, other);
        due("begin with a number of the same e", x.begin(0, 1), 1);
        due("the other's", x.inside(0, 1, 0, 4), other);
      }
      x.forge(1, lent);
      due("begin with the right one", x.begin(0, 1), 1);
    }
    holds("numbers of the same e were found", found > 5);
  }
}
