import java.math.BigInteger;
import java.util.ArrayList;
import java.util.HashMap;
import java.util.List;
import java.util.Map;
import java.util.Random;
import java.util.TreeMap;
import java.util.TreeSet;
import java.util.Set;

/**
 * Random runs of calls on the class and on a model of the document, whose answers must agree. The model
 * shares nothing with the class: its numbers are BigIntegers, it opens a letter in a copy of the session that
 * it throws away if the letter is wrong, and every number bears a term that tells how it came to be. (Runs go on
 * behind the 512th call, where the document promises nothing: the class has no such bound, and must agree there too.)
 */
public final class ModelRuns {
  private static final int RUNS = 180, CALLS = 420;
  private static int wrong = 0;
  private static final Map<String, Integer> SEEN = new TreeMap<>();

  public static void main(String[] args) {
    for (int run = 0; run < RUNS && wrong < 20; run++) new Run(run).go();
    reached();
    System.out.println(wrong == 0 ? "the model agrees" : wrong + " answers are not the model's");
    if (wrong != 0) System.exit(1);
  }

  /** Runs that never come to an edge would agree for nothing. */
  private static void reached() {
    for (String edge : List.of("come -11", "come -12", "come -13", "come -14", "come -15", "come -16", "come -17",
        "come -18", "come -19", "come -1", "write -1", "write -2", "write -3", "write -10", "begin -3", "begin -10",
        "begin 1", "begin -2", "publish -3", "publish -2", "rotate -3", "rotate 20", "copy -3", "feed -3", "end -1",
        "forge 1", "forge -1", "spoilt, and opened 1", "spoilt, and opened in a new session 1", "begun with a forged number 1", "opened with a number that was drawn later 1", "readable 0", "readable 1", "same 0", "same 1", "forget 4", "same -1")) {
      if (!SEEN.containsKey(edge)) { wrong++; System.out.println("the runs never reach: " + edge); }
    }
  }

  private static final class Run {
    final int run;
    final Random dice;
    final RatchetPost post;
    final Model model;
    final int users, mode;
    final List<String> told = new ArrayList<>();
    /** Numbers that nobody had drawn when a letter with them was opened. */
    final List<Long> nobodys = new ArrayList<>();
    final int[] interesting = {0, 1, 2, 3, 10, 11, 18, 19, 20, 21, 22, 23, 30, 31, 32, 33, 34, 35, 36};

    Run(int run) {
      this.run = run;
      dice = new Random(run * 7919L + 5);
      int n = dice.nextInt(9);
      int seed = dice.nextInt(4) == 0 ? Integer.MAX_VALUE - dice.nextInt(3) : dice.nextInt();
      mode = run % 6;
      if (mode == 1) n = 2;
      if (mode == 5) n = 2 + dice.nextInt(2);
      post = new RatchetPost(n, seed);
      model = new Model(n, seed);
      users = model.users.length;
      told.add("new(" + n + ", " + seed + ")");
    }

    void go() {
      int before = wrong;
      for (int i = 0; i < CALLS && wrong == before; i++) act(i);
      if (wrong == before) everything();
      if (wrong != before) System.out.println("run " + run + " of " + told.size() + " calls");
    }

    void due(String call, long got, long want) {
      told.add(call + " = " + want);
      if (got != want) {
        wrong++;
        System.out.println("run " + run + " call " + told.size() + ": " + call + " answered " + got + ", model " + want);
      }
    }

    void note(String call, long answer) {
      SEEN.merge(call + " " + answer, 1, Integer::sum);
    }

    int anyUser() { return dice.nextInt(30) == 0 ? dice.nextInt(9) - 1 : dice.nextInt(users); }

    int otherThan(int u) {
      if (dice.nextInt(30) == 0) return anyUser();
      int v = dice.nextInt(users);
      return v != u ? v : (v + 1) % users;
    }

    int anyLetter() {
      int many = model.letters.size();
      if (many == 0 || dice.nextInt(40) == 0) return dice.nextInt(90) - 4;
      return dice.nextInt(3) == 0 ? dice.nextInt(many) : Math.max(0, many - 1 - dice.nextInt(16));
    }

    void act(int i) {
      if (i < users && dice.nextInt(8) != 0) { register(i); return; }
      int roll = dice.nextInt(100);
      if (dice.nextInt(mode == 5 ? 6 : 40) == 0) spoilWithRightTag();
      if (roll < 30) writeSome();
      else if (roll < 62) comeSome();
      else if (roll < 65) { int u = anyUser(), v = otherThan(u); begin(u, v); }
      else if (roll < 67) { int u = anyUser(), k = dice.nextInt(14); due("publish " + u + " " + k, say("publish", post.publish(u, k)), model.publish(u, k)); }
      else if (roll < 69) rotateSome();
      else if (roll < 70) { int u = anyUser(), v = otherThan(u); due("forget " + u + " " + v, say("forget", post.forget(u, v)), model.forget(u, v)); }
      else if (roll < 76) spoilSome();
      else if (roll < 78) forgeSome();
      else if (roll < 80 && mode != 3) { int u = anyUser(); due("look " + u, post.look(u), model.look(u)); }
      else if (roll < 83) { int l = anyLetter(); due("readable " + l, say("readable", post.readable(l)), model.readable(l)); }
      else if (roll < 85) register(anyUser());
      else if (roll < 86) misdirect();
      else if (mode == 2 && roll < 94) { int u = anyUser(), v = otherThan(u); for (int k = 0; k < 4; k++) begin(u, v); }
      else watch();
    }

    long say(String call, long answer) { note(call, answer); return answer; }

    void register(int u) { due("register " + u, say("register", post.register(u)), model.register(u)); }

    void begin(int u, int v) { due("begin " + u + " " + v, say("begin", post.begin(u, v)), model.begin(u, v)); }

    void rotateSome() {
      int u = anyUser();
      int many = mode == 4 ? 6 : 1;
      for (int i = 0; i < many; i++) due("rotate " + u, say("rotate", post.rotate(u)), model.rotate(u));
    }

    void feed() {
      int a = dice.nextInt(), b = dice.nextInt(), c = dice.nextInt(), d = dice.nextInt(), e = dice.nextInt();
      due("feed", say("feed", post.feed(a, b, c, d, e)), model.feed(a, b, c, d, e));
    }

    void writeSome() {
      int u = anyUser(), v = otherThan(u);
      int many = mode == 3 || dice.nextInt(4) == 0 ? 1 + dice.nextInt(6) : 1;
      for (int i = 0; i < many; i++) {
        if (dice.nextInt(20) != 0) feed();
        if (dice.nextInt(4) == 0) feed();
        if (dice.nextInt(3) != 0) {
          int n = dice.nextInt(23) - 1;
          due("end " + n, say("end", post.end(n)), model.end(n));
        }
        due("write " + u + " " + v, say("write", post.write(u, v)), model.write(u, v));
      }
    }

    void come(int l, int u) {
      due("come " + l + " " + u, say("come", post.come(l, u)), model.come(l, u));
      for (int i = -1; i <= 40; i += 1 + dice.nextInt(20)) due("byteOf " + i, post.byteOf(i), model.byteOf(i));
    }

    void comeSome() {
      int l = anyLetter();
      int u = l < 0 || l >= model.letters.size() || dice.nextInt(25) == 0 ? anyUser() : model.letters.get(l).to;
      come(l, u);
      if (dice.nextInt(2) == 0) watchSession();
    }

    void spoilSome() {
      int l = anyLetter();
      if (dice.nextInt(3) != 0) {
        int made = model.copy(l);
        due("copy " + l, say("copy", post.copy(l)), made);
        if (made >= 0) l = made;
      }
      int place = dice.nextBoolean() ? interesting[dice.nextInt(interesting.length)] : dice.nextInt(88) - 2;
      int mask = dice.nextInt(4) == 0 ? dice.nextInt(260) - 2 : 1 + dice.nextInt(3);
      if (dice.nextInt(5) != 0) due("spoil " + l, post.spoil(l, place, mask), model.spoil(l, place, mask));
      int u = l >= 0 && l < model.letters.size() ? model.letters.get(l).to : anyUser();
      come(l, u);
      // What was spoilt once only is as it was, spoilt again.
      if (dice.nextInt(3) == 0) {
        due("spoil " + l, post.spoil(l, place, mask), model.spoil(l, place, mask));
        come(l, u);
      }
    }

    /** A letter whose from or to is made another user's, one that has not REGISTERED among them. */
    void misdirect() {
      int first = anyLetter(), place = 1 + dice.nextInt(2), u = dice.nextInt(users);
      int l = model.copy(first);
      due("copy " + first, say("copy", post.copy(first)), l);
      if (l < 0) return;
      int mask = model.letter(l, place) ^ u;
      due("spoil " + l, post.spoil(l, place, mask), model.spoil(l, place, mask));
      come(l, model.letter(l, 2));
    }

    /** The letter's bytes from a place on become a number of so many bytes. */
    void overwrite(int l, int place, long number, int many) {
      for (int i = 0; i < many; i++) {
        int mask = model.letter(l, place + i) ^ (int) (number >>> 8 * (many - 1 - i) & 255);
        if (mask != 0) due("spoil " + l, post.spoil(l, place + i, mask), model.spoil(l, place + i, mask));
      }
    }

    /** A PUBLIC number, one that nobody has the SECRET of, or none at all. */
    long anyOpen(long now) {
      switch (dice.nextInt(9)) {
        case 0: return 7;
        case 1: return dice.nextLong() >>> 3;
        case 2: return dice.nextBoolean() ? 0 : dice.nextLong() | 1L << 61;
        case 3: return (1L << 61) - 1 - now;
        case 4: return model.number(dice.nextInt(users), dice.nextInt(5));
        case 5: case 6: return model.inside(dice.nextInt(users), dice.nextInt(users), dice.nextInt(2), 3 + dice.nextInt(2));
        case 7: return model.futureOpen(dice.nextInt(users), 1 + dice.nextInt(3));
        default: return now;
      }
    }

    /** Numbers of a letter become others, and its TAG the one that is right for them. */
    void spoilWithRightTag() {
      int l = anyLetter();
      if (!model.okLetter(l)) return;
      if (dice.nextInt(3) == 0) {
        int made = model.copy(l);
        due("copy " + l, say("copy", post.copy(l)), made);
        if (made >= 0) l = made;
      }
      int[] b = model.letters.get(l).bytes;
      boolean begins = b[0] == 1;
      // What stood in a short letter's first byte may be spoilt already.
      if (begins && b.length < 45) return;
      int head = begins ? 23 : 3;
      for (int many = dice.nextInt(3); many >= 0; many--) {
        int roll = dice.nextInt(begins ? 9 : 5);
        if (roll < 2) overwrite(l, head, anyOpen(Model.number(b, head, 8)), 8);
        else if (roll == 2) overwrite(l, head + 8, dice.nextInt(8), 2);
        else if (roll == 3) overwrite(l, head + 10, dice.nextInt(8), 2);
        else if (roll == 4) { if (dice.nextInt(6) == 0) overwrite(l, 1, dice.nextInt(users), 1); }
        else if (roll == 5) overwrite(l, 3, anyOpen(Model.number(b, 3, 8)), 8);
        else if (roll == 6) overwrite(l, 11, anyOpen(Model.number(b, 11, 8)), 8);
        else if (roll == 7) overwrite(l, 19, Math.max(0, model.user(b[2], 1) - dice.nextInt(3)), 2);
        else overwrite(l, 21, dice.nextInt(4), 2);
      }
      Long tag = model.rightTag(b, dice.nextInt(4));
      if (tag != null) overwrite(l, b.length - 8, tag, 8);
      int made = model.madeInAll;
      long open = Model.number(b, head, 8);
      if (tag != null && !model.isDrawn(open)) nobodys.add(open);
      come(l, b[2]);
      if (tag != null) note(model.madeInAll > made ? "spoilt, and opened in a new session" : "spoilt, and opened", 1);
      if (dice.nextBoolean() && users > b[1]) {
        feed();
        due("write " + b[2] + " " + b[1], say("write", post.write(b[2], b[1])), model.write(b[2], b[1]));
      }
      if (dice.nextBoolean()) watchSession();
      if (dice.nextInt(4) == 0) for (int k = 0; k < model.letters.size(); k++) due("readable " + k, say("readable", post.readable(k)), model.readable(k));
    }

    void forgeSome() {
      int u = anyUser(), v = otherThan(u);
      long number = dice.nextInt(4) == 0 ? dice.nextLong() : dice.nextLong() >>> 4;
      long right = model.number(u, 1);
      if (dice.nextBoolean() && right != 0) number = model.numberOfSameSeal(u);
      due("forge " + u, say("forge", post.forge(u, number)), model.forge(u, number));
      begin(v, u);
      if (model.ok(u, v) && number != right && model.session(v, u, 0, 5) == 1 && model.inside(v, u, 0, 4) == number) note("begun with a forged number", 1);
      if (dice.nextBoolean()) {
        feed();
        due("write " + v + " " + u, say("write", post.write(v, u)), model.write(v, u));
      }
      if (dice.nextInt(4) != 0) due("forge " + u, post.forge(u, right), model.forge(u, right));
    }

    void watch() {
      int u = anyUser(), v = otherThan(u), i = dice.nextInt(6) - 1, j = dice.nextInt(4), what = dice.nextInt(10) - 1;
      due("user " + u + " " + what, post.user(u, what), model.user(u, what));
      due("number " + u + " " + what, post.number(u, what), model.number(u, what));
      due("session " + u + " " + v + " " + i + " " + what, post.session(u, v, i, what), model.session(u, v, i, what));
      due("inside " + u + " " + v + " " + i + " " + what, post.inside(u, v, i, what), model.inside(u, v, i, what));
      due("same " + u + " " + v + " " + i + " " + j, say("same", post.same(u, v, i, j)), model.same(u, v, i, j));
      due("count " + what, post.count(what), model.count(what));
    }

    void watchSession() {
      int u = anyUser(), v = otherThan(u);
      for (int what = 0; what < 8; what++) {
        due("session", post.session(u, v, 0, what), model.session(u, v, 0, what));
        due("inside", post.inside(u, v, 0, what), model.inside(u, v, 0, what));
      }
    }

    void everything() {
      for (long open : nobodys) if (model.isDrawn(open)) note("opened with a number that was drawn later", 1);
      for (int u = -1; u <= users; u++) {
        for (int what = -1; what < 9; what++) {
          due("user " + u + " " + what, post.user(u, what), model.user(u, what));
          due("number " + u + " " + what, post.number(u, what), model.number(u, what));
        }
        for (int v = -1; v <= users; v++) {
          for (int i = -2; i < 5; i++) {
            for (int what = -1; what < 9; what++) {
              due("session", post.session(u, v, i, what), model.session(u, v, i, what));
              due("inside", post.inside(u, v, i, what), model.inside(u, v, i, what));
            }
            for (int j = -1; j < 5; j++) due("same", say("same", post.same(u, v, i, j)), model.same(u, v, i, j));
          }
        }
      }
      for (int l = -1; l <= model.letters.size(); l++) {
        for (int place = -2; place < 86; place++) due("letter " + l + " " + place, post.letter(l, place), model.letter(l, place));
        due("readable " + l, post.readable(l), model.readable(l));
      }
      for (int what = -1; what < 6; what++) due("count " + what, post.count(what), model.count(what));
      for (int i = -1; i < 41; i++) due("byteOf " + i, post.byteOf(i), model.byteOf(i));
      for (int u = 0; u < users; u++) {
        due("look " + u, post.look(u), model.look(u));
        for (int l = 0; l < model.letters.size(); l++) due("readable " + l, say("readable", post.readable(l)), model.readable(l));
      }
    }
  }

  // ---- the model

  /** Terms tell how numbers came to be: equal ways have equal terms. */
  private static final class Terms {
    final Map<List<Object>, Integer> ids = new HashMap<>();
    final List<List<Object>> all = new ArrayList<>();
    final Set<Integer> got = new TreeSet<>();

    int of(Object... parts) {
      List<Object> key = List.of(parts);
      Integer id = ids.get(key);
      if (id == null) { id = all.size(); ids.put(key, id); all.add(key); }
      return id;
    }

    int common(int a, int b) { return of("common", Math.min(a, b), Math.max(a, b)); }

    boolean known(int id) { return known(id, new HashMap<>()); }

    private boolean known(int id, Map<Integer, Boolean> memo) {
      if (id < 0) return false;
      Boolean old = memo.get(id);
      if (old != null) return old;
      boolean answer = got.contains(id);
      List<Object> t = all.get(id);
      if (!answer && !t.get(0).equals("secret")) {
        boolean any = false, every = true;
        for (int i = 1; i < t.size(); i++) {
          boolean k = known((Integer) t.get(i), memo);
          any |= k;
          every &= k;
        }
        answer = t.get(0).equals("common") ? any : every;
      }
      memo.put(id, answer);
      return answer;
    }
  }

  private record Num(long value, int term) { }

  private record Pair(BigInteger secret, long open, int term) { }

  /** A PUBLIC number as somebody met it, with the term of its SECRET. */
  private record Met(long open, int term) { }

  private record Draw(int user, int number) { }

  private record Kept(long open, int place, Num key) { }

  private static final class MSession {
    Num root, sending, receiving, first;
    Pair own;
    Met other;
    int ns, nr, pn, lent, once;
    List<Kept> kept = new ArrayList<>();
    boolean begun, goes;
    long e;

    MSession twin() {
      MSession s = new MSession();
      s.root = root; s.sending = sending; s.receiving = receiving; s.first = first;
      s.own = own; s.other = other; s.ns = ns; s.nr = nr; s.pn = pn; s.lent = lent; s.once = once;
      s.kept = new ArrayList<>(kept); s.begun = begun; s.goes = goes; s.e = e;
      return s;
    }
  }

  private static final class MUser {
    long seed;
    int drawn;
    Pair identity;
    List<Pair> lents = new ArrayList<>();
    long lentOpen, sealR, sealT;
    List<Pair> onces = new ArrayList<>();
    Set<Integer> there = new TreeSet<>(), keptOnces = new TreeSet<>();
    List<List<MSession>> rows = new ArrayList<>();
    Set<List<Long>> began = new java.util.HashSet<>();
  }

  private static final class MLetter {
    int[] bytes;
    int to;
    int keyTerm;
  }

  private static final class Model {
    static final BigInteger P = BigInteger.TWO.pow(61).subtract(BigInteger.ONE), Q = P.subtract(BigInteger.ONE);
    static final BigInteger THREE = BigInteger.valueOf(3), WORD = BigInteger.TWO.pow(64);
    final MUser[] users;
    final Terms terms = new Terms();
    /** Draws that were taken back are still here: those above a user's count were not drawn. */
    final Map<Long, Draw> draws = new HashMap<>();
    final List<MLetter> letters = new ArrayList<>();
    List<Integer> tape = new ArrayList<>(), reading = new ArrayList<>();
    int copies, begunInAll, madeInAll, openedInAll, looks;

    Model(int n, int seed) {
      users = new MUser[n < 2 ? 2 : n > 6 ? 6 : n];
      for (int u = 0; u < users.length; u++) {
        users[u] = new MUser();
        users[u].seed = (long) seed + u;
        for (int v = 0; v < users.length; v++) users[u].rows.add(new ArrayList<>());
      }
    }

    static long wrap(BigInteger b) { return b.mod(WORD).longValue(); }
    static BigInteger plain(long x) { return new BigInteger(Long.toUnsignedString(x)); }

    static long mix(long a, long b) {
      BigInteger h = plain(a).xor(new BigInteger("5851F42D4C957F2D", 16)).multiply(new BigInteger("9E3779B97F4A7C15", 16)).mod(WORD);
      h = h.xor(h.shiftRight(32)).add(plain(b)).mod(WORD);
      h = h.multiply(new BigInteger("D6E8FEB86659FD93", 16)).mod(WORD);
      return wrap(h.xor(h.shiftRight(29)));
    }

    static long sum(long... xs) {
      long h = 0;
      for (long x : xs) h = mix(h, x);
      return h;
    }

    static long key(int k, long x, long y) { return mix(mix(k, x), y); }

    boolean ok(int u) { return u >= 0 && u < users.length; }
    boolean ok(int u, int v) { return ok(u) && ok(v) && u != v; }
    boolean okLetter(int l) { return l >= 0 && l < letters.size(); }

    Pair draw(int u) {
      MUser user = users[u];
      user.drawn++;
      BigInteger s = plain(mix(user.seed, user.drawn)).mod(Q.subtract(BigInteger.ONE)).add(BigInteger.ONE);
      long open = THREE.modPow(s, P).longValue();
      draws.put(open, new Draw(u, user.drawn));
      return new Pair(s, open, terms.of("secret", u, user.drawn));
    }

    boolean isDrawn(long open) {
      Draw draw = draws.get(open);
      return draw != null && draw.number() <= users[draw.user()].drawn;
    }

    /** A PUBLIC number that stands somewhere now: its SECRET is nobody's, if none was drawn till now that has it. */
    Met meet(long open) {
      if (!isDrawn(open)) return new Met(open, terms.of("secret", "nobody's", open));
      Draw draw = draws.get(open);
      return new Met(open, terms.of("secret", draw.user(), draw.number()));
    }

    long futureOpen(int u, int ahead) {
      return THREE.modPow(plain(mix(users[u].seed, users[u].drawn + ahead)).mod(Q.subtract(BigInteger.ONE)).add(BigInteger.ONE), P).longValue();
    }

    /** Another number for which the SEAL of the LENT key is RIGHT (its e is the same modulo Q), or the same one. */
    long numberOfSameSeal(int u) {
      MUser user = users[u];
      BigInteger e = plain(sum(user.sealR, user.lents.get(user.lents.size() - 1).open())).mod(Q);
      for (BigInteger z = e; z.compareTo(WORD) < 0; z = z.add(Q)) {
        BigInteger h = z;
        for (int i = 0; i < 3; i++) h = z.xor(h.shiftRight(29));
        h = h.multiply(new BigInteger("D6E8FEB86659FD93", 16).modInverse(WORD)).mod(WORD);
        BigInteger g = plain(mix(0, user.sealR)).xor(new BigInteger("5851F42D4C957F2D", 16)).multiply(new BigInteger("9E3779B97F4A7C15", 16)).mod(WORD);
        BigInteger m = h.subtract(g.xor(g.shiftRight(32))).mod(WORD);
        if (m.signum() > 0 && m.compareTo(P) < 0 && m.longValue() != user.lents.get(user.lents.size() - 1).open()) return m.longValue();
      }
      return user.lentOpen;
    }

    Num common(Pair mine, Met met) {
      long open = met.open();
      boolean is = open > 0 && BigInteger.valueOf(open).compareTo(P) < 0;
      return new Num(is ? BigInteger.valueOf(open).modPow(mine.secret(), P).longValue() : 0, terms.common(mine.term(), met.term()));
    }

    Num keyOf(int k, Num x, Num y) {
      int kind = terms.of("secret", "kind", k);
      terms.got.add(kind);
      return new Num(key(k, x.value(), y == null ? 0 : y.value()),
          y == null ? terms.of("key", kind, x.term()) : terms.of("key", kind, x.term(), y.term()));
    }

    Num firstRoot(Num a, Num b, Num c, Num d) {
      return new Num(sum(a.value(), b.value(), c.value(), d == null ? 0 : d.value()),
          d == null ? terms.of("root", a.term(), b.term(), c.term()) : terms.of("root", a.term(), b.term(), c.term(), d.term()));
    }

    int feed(int... xs) {
      if (tape.size() + 20 > 40) return -3;
      for (int x : xs) for (byte b : java.nio.ByteBuffer.allocate(4).putInt(x).array()) tape.add(b & 255);
      return tape.size();
    }

    int end(int n) {
      if (n < 0 || n > 20 || tape.size() < 20) return -1;
      tape = new ArrayList<>(tape.subList(0, tape.size() - 20 + n));
      return tape.size();
    }

    void lend(int u) {
      MUser user = users[u];
      Pair lent = draw(u), r = draw(u);
      user.lents.add(lent);
      user.lentOpen = lent.open();
      user.sealR = r.open();
      BigInteger e = plain(sum(r.open(), lent.open())).mod(Q);
      user.sealT = r.secret().add(e.multiply(user.identity.secret())).mod(Q).longValue();
    }

    int register(int u) {
      if (!ok(u)) return -1;
      if (users[u].identity != null) return 0;
      users[u].identity = draw(u);
      lend(u);
      return 1;
    }

    int publish(int u, int many) {
      if (!ok(u) || many < 1 || many > 12) return -1;
      MUser user = users[u];
      if (user.identity == null) return -2;
      if (user.there.size() + many > 12 || user.onces.size() + many > 60) return -3;
      for (int i = 0; i < many; i++) {
        user.onces.add(draw(u));
        user.there.add(user.onces.size());
        user.keptOnces.add(user.onces.size());
      }
      return user.there.size();
    }

    int rotate(int u) {
      if (!ok(u)) return -1;
      if (users[u].identity == null) return -2;
      if (users[u].lents.size() == 20) return -3;
      lend(u);
      return users[u].lents.size();
    }

    int open(int u, int v) {
      if (begunInAll == 100) return -3;
      MUser me = users[u], it = users[v];
      int once = it.there.isEmpty() ? 0 : it.there.iterator().next();
      it.there.remove(once);
      BigInteger e0 = plain(sum(it.sealR, it.lentOpen)).mod(Q);
      BigInteger left = THREE.modPow(BigInteger.valueOf(it.sealT), P);
      BigInteger right = BigInteger.valueOf(it.identity.open()).modPow(e0, P).multiply(BigInteger.valueOf(it.sealR)).mod(P);
      if (!left.equals(right)) return -10;
      MSession s = new MSession();
      s.other = meet(it.lentOpen);
      Met identity = meet(it.identity.open()), onceKey = once == 0 ? null : meet(it.onces.get(once - 1).open());
      Pair e = draw(u);
      s.root = firstRoot(common(me.identity, s.other), common(e, identity), common(e, s.other),
          onceKey == null ? null : common(e, onceKey));
      s.first = s.root;
      s.e = e.open();
      s.lent = it.lents.size();
      s.once = once;
      s.begun = true;
      s.goes = true;
      turn(s, u);
      addFirst(me.rows.get(v), s);
      begunInAll++;
      return 1;
    }

    void turn(MSession s, int u) {
      s.own = draw(u);
      Num x = common(s.own, s.other);
      s.sending = keyOf(2, s.root, x);
      s.root = keyOf(1, s.root, x);
    }

    void addFirst(List<MSession> row, MSession s) {
      row.add(0, s);
      if (row.size() > 4) row.remove(4);
    }

    int begin(int u, int v) {
      if (!ok(u, v)) return -1;
      if (users[u].identity == null || users[v].identity == null) return -2;
      return open(u, v);
    }

    int forget(int u, int v) {
      if (!ok(u, v)) return -1;
      int many = users[u].rows.get(v).size();
      users[u].rows.get(v).clear();
      return many;
    }

    static void put(List<Integer> to, long x, int many) {
      for (int i = many - 1; i >= 0; i--) to.add((int) (x >> 8 * i) & 255);
    }

    int write(int u, int v) {
      if (!ok(u, v) || tape.isEmpty()) return -1;
      if (users[u].identity == null || users[v].identity == null) return -2;
      if (letters.size() == 80) return -3;
      List<MSession> row = users[u].rows.get(v);
      if (row.isEmpty()) {
        int answer = open(u, v);
        if (answer != 1) return answer;
      }
      MSession s = row.get(0);
      Num key = keyOf(3, s.sending, null);
      s.sending = keyOf(4, s.sending, null);
      List<Integer> out = new ArrayList<>(List.of(s.goes ? 1 : 2, u, v));
      if (s.goes) {
        put(out, users[u].identity.open(), 8);
        put(out, s.e, 8);
        put(out, s.lent, 2);
        put(out, s.once, 2);
      }
      put(out, s.own.open(), 8);
      put(out, s.pn, 2);
      put(out, s.ns++, 2);
      put(out, tape.size(), 1);
      for (int i = 0; i < tape.size(); i++) out.add(tape.get(i) ^ (int) (key(5, key.value(), i) & 255));
      put(out, key(6, key.value(), sum(out.stream().mapToLong(x -> x).toArray())), 8);
      MLetter l = new MLetter();
      l.bytes = out.stream().mapToInt(x -> x).toArray();
      l.to = v;
      l.keyTerm = key.term();
      letters.add(l);
      tape.clear();
      return letters.size() - 1;
    }

    static long number(int[] b, int at, int many) {
      long x = 0;
      for (int i = 0; i < many; i++) x = x * 256 + b[at + i];
      return x;
    }

    int come(int l, int u) {
      if (!okLetter(l) || !ok(u)) return -1;
      int fault = comes(letters.get(l).bytes, u);
      return fault == 0 ? reading.size() : -10 - fault;
    }

    int atTheDoor(int[] b, int u) {
      int head = b[0] == 1 ? 23 : b[0] == 2 ? 3 : -1;
      if (head < 0 || b.length < head + 13) return 1;
      int length = b[head + 12];
      if (length < 1 || length > 40 || b.length != head + 13 + length + 8) return 1;
      if (!ok(b[1], b[2]) || b[2] != u) return 1;
      if (users[u].identity == null) return 2;
      return openedInAll >= 400 ? 10 : 0;
    }

    int comes(int[] b, int u) {
      int door = atTheDoor(b, u);
      if (door != 0) return door;
      int head = b[0] == 1 ? 23 : 3;
      List<MSession> row = users[u].rows.get(b[1]);
      if (b[0] == 2) {
        int fault = 3;
        for (int i = 0; i < row.size(); i++) {
          int f = openAt(row, i, b, head, u);
          if (f == 0) return 0;
          if (i == 0) fault = f;
        }
        return fault;
      }
      long e = number(b, 11, 8);
      for (int i = 0; i < row.size(); i++) if (!row.get(i).begun && row.get(i).e == e) return openAt(row, i, b, head, u);
      return make(row, b, e, u);
    }

    int faultOfNew(int[] b, long e, int u) {
      MUser me = users[u];
      int lentNumber = (int) number(b, 19, 2), once = (int) number(b, 21, 2), newest = me.lents.size();
      if (lentNumber < 1 || lentNumber > newest || lentNumber < newest - 1) return 7;
      if (me.began.contains(List.of(e, (long) lentNumber))) return 9;
      if (once != 0 && !me.keptOnces.contains(once)) return 8;
      return madeInAll >= 100 ? 10 : 0;
    }

    MSession made(int[] b, long e, int u) {
      MUser me = users[u];
      int lentNumber = (int) number(b, 19, 2), once = (int) number(b, 21, 2);
      Pair lent = me.lents.get(lentNumber - 1);
      MSession s = new MSession();
      Met met = meet(e);
      s.root = firstRoot(common(lent, meet(number(b, 3, 8))), common(me.identity, met), common(lent, met),
          once == 0 ? null : common(me.onces.get(once - 1), met));
      s.first = s.root;
      s.e = e;
      s.own = lent;
      return s;
    }

    int make(List<MSession> row, int[] b, long e, int u) {
      int fault = faultOfNew(b, e, u);
      if (fault != 0) return fault;
      List<MSession> alone = new ArrayList<>(List.of(made(b, e, u)));
      fault = openAt(alone, 0, b, 23, u);
      if (fault == 0) {
        addFirst(row, alone.get(0));
        users[u].keptOnces.remove((int) number(b, 21, 2));
        users[u].began.add(List.of(e, number(b, 19, 2)));
        madeInAll++;
      }
      return fault;
    }

    /** The TAG with which a letter's bytes would be opened (without a BEGINNING: in the session picked), or null. */
    Long rightTag(int[] b, int pick) {
      int u = b[2];
      if (!ok(u) || atTheDoor(b, u) != 0) return null;
      List<MSession> row = users[u].rows.get(b[1]);
      MSession s = b[0] == 2 && pick < row.size() ? row.get(pick) : null;
      if (b[0] == 1) {
        long e = number(b, 11, 8);
        for (MSession old : row) if (!old.begun && old.e == e) s = old;
        if (s == null && faultOfNew(b, e, u) == 0) s = made(b, e, u);
      }
      if (s == null) return null;
      int drawn = users[u].drawn;
      Object[] key = new Object[1];
      int fault = opens(s.twin(), b, b[0] == 1 ? 23 : 3, u, key);
      users[u].drawn = drawn;
      return fault != 0 ? null : (Long) key(6, ((Num) key[0]).value(), sum(java.util.Arrays.stream(b).limit(b.length - 8).asLongStream().toArray()));
    }

    int openAt(List<MSession> row, int i, int[] b, int head, int u) {
      int drawn = users[u].drawn;
      MSession s = row.get(i).twin();
      Object[] key = new Object[1];
      int fault = opens(s, b, head, u, key);
      if (fault == 0) {
        long k = ((Num) key[0]).value();
        long want = key(6, k, sum(java.util.Arrays.stream(b).limit(b.length - 8).asLongStream().toArray()));
        if (want != number(b, b.length - 8, 8)) fault = 4;
        else {
          reading = new ArrayList<>();
          for (int t = 0; t < b[head + 12]; t++) reading.add(b[head + 13 + t] ^ (int) (key(5, k, t) & 255));
          openedInAll++;
          s.goes = false;
          row.remove(i);
          row.add(0, s);
          return 0;
        }
      }
      users[u].drawn = drawn;
      return fault;
    }

    /** All that opening does, done to a copy; the draw is taken back if the letter is wrong. */
    int opens(MSession s, int[] b, int head, int u, Object[] key) {
      long p = number(b, head, 8);
      int pn = (int) number(b, head + 8, 2), n = (int) number(b, head + 10, 2);
      for (int i = 0; i < s.kept.size(); i++) {
        Kept k = s.kept.get(i);
        if (k.open() == p && k.place() == n) { key[0] = k.key(); s.kept.remove(i); return 0; }
      }
      boolean same = s.other != null && s.other.open() == p;
      if (same && s.receiving == null) return 4;
      if (same && n < s.nr) return 6;
      int old = !same && s.receiving != null && pn > s.nr ? pn - s.nr : 0;
      int all = old + (same ? n - s.nr : n);
      if (all > 10 || all + s.kept.size() > 20) return 5;
      Num turned = null;
      if (!same) {
        for (; s.receiving != null && s.nr < pn; s.nr++) keepOne(s);
        s.pn = s.ns;
        s.ns = 0;
        s.nr = 0;
        s.other = meet(p);
        Num x = common(s.own, s.other);
        s.receiving = keyOf(2, s.root, x);
        s.root = keyOf(1, s.root, x);
        turn(s, u);
      }
      for (; s.nr < n; s.nr++) keepOne(s);
      key[0] = keyOf(3, s.receiving, null);
      s.receiving = keyOf(4, s.receiving, null);
      s.nr = n + 1;
      return 0;
    }

    void keepOne(MSession s) {
      s.kept.add(new Kept(s.other.open(), s.nr, keyOf(3, s.receiving, null)));
      s.receiving = keyOf(4, s.receiving, null);
    }

    int byteOf(int i) { return i < 0 || i >= reading.size() ? -1 : reading.get(i); }

    int copy(int l) {
      if (!okLetter(l)) return -1;
      if (letters.size() == 80) return -3;
      MLetter c = new MLetter();
      c.bytes = letters.get(l).bytes.clone();
      c.to = letters.get(l).to;
      c.keyTerm = letters.get(l).keyTerm;
      letters.add(c);
      copies++;
      return letters.size() - 1;
    }

    int spoil(int l, int place, int mask) {
      if (!okLetter(l) || place < 0 || place >= letters.get(l).bytes.length || mask < 1 || mask > 255) return -1;
      return letters.get(l).bytes[place] ^= mask;
    }

    int letter(int l, int place) {
      if (!okLetter(l)) return -1;
      int[] b = letters.get(l).bytes;
      return place == -1 ? b.length : place < 0 || place >= b.length ? -1 : b[place];
    }

    int forge(int u, long number) {
      if (!ok(u) || users[u].identity == null || number < 1 || BigInteger.valueOf(number).compareTo(P) >= 0) return -1;
      users[u].lentOpen = number;
      return 1;
    }

    int user(int u, int what) {
      if (!ok(u) || what < 0 || what > 7) return -1;
      MUser me = users[u];
      int least = me.there.isEmpty() ? 0 : me.there.iterator().next();
      int sessions = me.rows.stream().mapToInt(List::size).sum();
      return new int[] {me.identity == null ? 0 : 1, me.lents.size(), me.there.size(), least, me.onces.size(), me.drawn,
          me.keptOnces.size(), sessions}[what];
    }

    long number(int u, int what) {
      if (!ok(u) || what < 0 || what > 4 || users[u].identity == null) return 0;
      MUser me = users[u];
      long least = me.there.isEmpty() ? 0 : me.onces.get(me.there.iterator().next() - 1).open();
      return new long[] {me.identity.open(), me.lentOpen, me.sealR, me.sealT, least}[what];
    }

    MSession sessionAt(int u, int v, int i) {
      if (!ok(u, v) || i < 0 || i >= users[u].rows.get(v).size()) return null;
      return users[u].rows.get(v).get(i);
    }

    int session(int u, int v, int i, int what) {
      if (ok(u, v) && i == -1 && what == 0) return users[u].rows.get(v).size();
      MSession s = sessionAt(u, v, i);
      if (s == null || what < 0 || what > 7) return -1;
      return new int[] {s.ns, s.nr, s.pn, s.kept.size(), s.goes ? 1 : 0, s.begun ? 1 : 0, s.sending != null ? 1 : 0,
          s.receiving != null ? 1 : 0}[what];
    }

    long inside(int u, int v, int i, int what) {
      MSession s = sessionAt(u, v, i);
      if (s == null || what < 0 || what > 4) return 0;
      return new long[] {s.root.value(), s.sending.value(), s.receiving == null ? 0 : s.receiving.value(), s.own.open(), s.other.open()}[what];
    }

    int same(int u, int v, int i, int j) {
      MSession a = sessionAt(u, v, i), b = sessionAt(v, u, j);
      return a == null || b == null ? -1 : a.first.value() == b.first.value() ? 1 : 0;
    }

    int look(int u) {
      if (!ok(u)) return -1;
      MUser me = users[u];
      if (me.identity != null) terms.got.add(me.identity.term());
      for (int i = Math.max(0, me.lents.size() - 2); i < me.lents.size(); i++) terms.got.add(me.lents.get(i).term());
      for (int k : me.keptOnces) terms.got.add(me.onces.get(k - 1).term());
      for (List<MSession> row : me.rows) {
        for (MSession s : row) {
          terms.got.add(s.root.term());
          terms.got.add(s.sending.term());
          if (s.receiving != null) terms.got.add(s.receiving.term());
          terms.got.add(s.own.term());
          for (Kept k : s.kept) terms.got.add(k.key().term());
        }
      }
      return ++looks;
    }

    int readable(int l) { return !okLetter(l) ? -1 : terms.known(letters.get(l).keyTerm) ? 1 : 0; }

    int count(int what) {
      return what < 0 || what > 4 ? -1 : new int[] {letters.size(), copies, looks, reading.size(), tape.size()}[what];
    }
  }
}
