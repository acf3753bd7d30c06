import java.math.BigInteger;

/** The document's arithmetic, with BigIntegers where the class has none. */
abstract class Doc {
  static final BigInteger P = BigInteger.TWO.pow(61).subtract(BigInteger.ONE), Q = P.subtract(BigInteger.ONE);
  static final long LAST = (1L << 61) - 2;
  private static final BigInteger THREE = BigInteger.valueOf(3);

  static BigInteger plain(long number) {
    return new BigInteger(Long.toUnsignedString(number));
  }

  static long mix(long a, long b) {
    long h = (a ^ 0x5851F42D4C957F2DL) * 0x9E3779B97F4A7C15L;
    h = (h ^ h >>> 32) + b;
    h *= 0xD6E8FEB86659FD93L;
    return h ^ h >>> 29;
  }

  static long key(int k, long x, long y) {
    return mix(mix(k, x), y);
  }

  static long sum(long... numbers) {
    long h = 0;
    for (long n : numbers) h = mix(h, n);
    return h;
  }

  /** The SECRET that a user of this SEED draws as its i-th number. */
  static BigInteger secret(long seed, int i) {
    return plain(mix(seed, i)).mod(Q.subtract(BigInteger.ONE)).add(BigInteger.ONE);
  }

  /** The first three draws of a user are of its IDENTITY, its LENT key, and that one's SEAL. */
  static BigInteger identityOf(long seed) {
    return secret(seed, 1);
  }

  static BigInteger lentOf(long seed) {
    return secret(seed, 2);
  }

  static long open(BigInteger secret) {
    return THREE.modPow(secret, P).longValue();
  }

  /** 0 without a SECRET (there is no ONCE key), and of what is not 1 .. P - 1. */
  static long common(BigInteger secret, long open) {
    if (secret == null || open < 1 || open > LAST) return 0;
    return BigInteger.valueOf(open).modPow(secret, P).longValue();
  }

  /** t of the SEAL of a number by the IDENTITY of a user, whose r is its draw of this number. */
  static long proof(long seed, int draw, long message) {
    BigInteger r = secret(seed, draw);
    BigInteger e = plain(sum(open(r), message)).mod(Q);
    return r.add(e.multiply(secret(seed, 1))).mod(Q).longValue();
  }

  /** Another number with the same e modulo Q in its SEAL (R), so that the SEAL is RIGHT for it too; 0 if there is none. */
  static long numberOfSameSeal(long lent, long r) {
    long a = mix(0, r);
    long g = (a ^ 0x5851F42D4C957F2DL) * 0x9E3779B97F4A7C15L;
    BigInteger word = BigInteger.TWO.pow(64), back = plain(0xD6E8FEB86659FD93L).modInverse(word);
    for (BigInteger z = plain(mix(a, lent)).mod(Q); z.compareTo(word) < 0; z = z.add(Q)) {
      long h = z.longValue();
      h = h ^ h >>> 29 ^ h >>> 58;
      h = BigInteger.valueOf(h).multiply(back).longValue() - (g ^ g >>> 32);
      if (h >= 1 && h <= LAST && h != lent) return h;
    }
    return 0;
  }
}
