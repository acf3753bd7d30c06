import java.math.BigInteger;
import java.util.ArrayList;
import java.util.List;
import java.util.function.ToLongFunction;

/**
 * A RatchetPost that may be asked as often as a test likes. The document promises nothing behind an object's 512th
 * call: so when it has had them, another one is made, and the calls that may change something are made on it again.
 */
final class Post {
  private static final int CALLS = 512, MOST_AFTERWARDS = 110, LONG_RUN = 350;
  private final int n, seed;
  private final List<ToLongFunction<RatchetPost>> changes = new ArrayList<>();
  private RatchetPost object;
  private int calls;
  private String told;
  private int toldRoom;

  Post(int n, int seed) {
    this.n = n;
    this.seed = seed;
    object = new RatchetPost(n, seed);
  }

  /** One whose users have all REGISTERED. */
  static Post registered(int n, int seed) {
    Post x = new Post(n, seed);
    for (int u = 0; u < n; u++) x.register(u);
    return x;
  }

  /** Another one with the same calls behind it. */
  Post twin() {
    Post made = new Post(n, seed);
    made.changes.addAll(changes);
    made.again();
    return made;
  }

  private void again() {
    object = new RatchetPost(n, seed);
    for (ToLongFunction<RatchetPost> call : changes) call.applyAsLong(object);
    calls = changes.size();
  }

  private long ask(ToLongFunction<RatchetPost> call) {
    if (calls >= CALLS) again();
    if (calls >= CALLS) throw new IllegalStateException("a test of more than " + CALLS + " calls");
    calls++;
    return call.applyAsLong(object);
  }

  private int change(ToLongFunction<RatchetPost> call) {
    long answer = ask(call);
    changes.add(call);
    told = null;
    return (int) answer;
  }

  // ---- calls that may change something

  int feed(int a, int b, int c, int d, int e) { return change(x -> x.feed(a, b, c, d, e)); }
  int end(int many) { return change(x -> x.end(many)); }
  int register(int u) { return change(x -> x.register(u)); }
  int publish(int u, int many) { return change(x -> x.publish(u, many)); }
  int rotate(int u) { return change(x -> x.rotate(u)); }
  int write(int u, int v) { return change(x -> x.write(u, v)); }
  int begin(int u, int v) { return change(x -> x.begin(u, v)); }
  int forget(int u, int v) { return change(x -> x.forget(u, v)); }
  int come(int letter, int u) { return change(x -> x.come(letter, u)); }
  int copy(int letter) { return change(x -> x.copy(letter)); }
  int spoil(int letter, int place, int mask) { return change(x -> x.spoil(letter, place, mask)); }
  int forge(int u, long number) { return change(x -> x.forge(u, number)); }
  int look(int u) { return change(x -> x.look(u)); }

  // ---- calls that only tell

  int byteOf(int i) { return (int) ask(x -> x.byteOf(i)); }
  int letter(int letter, int place) { return (int) ask(x -> x.letter(letter, place)); }
  int user(int u, int what) { return (int) ask(x -> x.user(u, what)); }
  long number(int u, int what) { return ask(x -> x.number(u, what)); }
  int session(int u, int v, int i, int what) { return (int) ask(x -> x.session(u, v, i, what)); }
  long inside(int u, int v, int i, int what) { return ask(x -> x.inside(u, v, i, what)); }
  int same(int u, int v, int i, int j) { return (int) ask(x -> x.same(u, v, i, j)); }
  int readable(int letter) { return (int) ask(x -> x.readable(letter)); }
  int count(int what) { return (int) ask(x -> x.count(what)); }

  /** A call that only tells, made as one that might change something. */
  long askAsChange(ToLongFunction<RatchetPost> call) {
    long answer = ask(call);
    changes.add(call);
    told = null;
    return answer;
  }

  // ---- what tests do with it

  int sessions(int u, int v) { return session(u, v, -1, 0); }

  /** A tape of so many bytes: 1, 2, 3, .. */
  void type(int many) {
    for (int at = 0; at < many; at += 20) {
      int a = at + 1;
      feed(four(a), four(a + 4), four(a + 8), four(a + 12), four(a + 16));
      if (at + 20 > many) end(many - at);
    }
  }

  static int four(int first) {
    return first << 24 | first + 1 << 16 | first + 2 << 8 | first + 3;
  }

  int send(int u, int v, int many) {
    type(many);
    return write(u, v);
  }

  /** A letter of 20 bytes, in as few calls as can be. */
  int feedAndWrite(int u, int v) {
    feed(1, 2, 3, 4, 5);
    return write(u, v);
  }

  /** A letter that is opened at once. */
  int deliver(int u, int v, int many) {
    int letter = send(u, v, many);
    Check.due("a letter of " + u + " comes to " + v, come(letter, v), many);
    return letter;
  }

  long bytesOf(int letter, int place, int many) {
    long number = 0;
    for (int i = 0; i < many; i++) number = number << 8 | letter(letter, place + i);
    return number;
  }

  /** The letter's bytes from a place on become a number of so many bytes. */
  void overwrite(int letter, int place, long number, int many) {
    for (int i = 0; i < many; i++) {
      int mask = letter(letter, place + i) ^ (int) (number >>> 8 * (many - 1 - i) & 255);
      if (mask != 0) spoil(letter, place + i, mask);
    }
  }

  /** Where the HEAD stands, which has PUBLIC (8), PN (2), NS (2). */
  int headOf(int letter) {
    return letter(letter, 0) == 1 ? 23 : 3;
  }

  /** The first ROOT as who opens a letter works it out, with the numbers that stand in it now. */
  long rootAtReader(int letter, BigInteger identity, BigInteger lent, BigInteger once) {
    long from = bytesOf(letter, 3, 8), e = bytesOf(letter, 11, 8);
    return Doc.sum(Doc.common(lent, from), Doc.common(identity, e), Doc.common(lent, e), Doc.common(once, e));
  }

  /** The chain that a SESSION with this ROOT and own SECRET turns to by a letter. */
  long chainOf(int letter, long root, BigInteger own) {
    return Doc.key(2, root, Doc.common(own, bytesOf(letter, headOf(letter), 8)));
  }

  /** The letter's TAG becomes the right one for a key. */
  void retagWithKey(int letter, long key) {
    int size = letter(letter, -1);
    long[] before = new long[size - 8];
    for (int i = 0; i < size - 8; i++) before[i] = letter(letter, i);
    overwrite(letter, size - 8, Doc.key(6, key, Doc.sum(before)), 8);
  }

  /** The letter's TAG becomes the right one for the chain whose place 0 this is. */
  void retag(int letter, long chain) {
    long at = chain;
    for (long n = bytesOf(letter, headOf(letter) + 10, 2); n > 0; n--) at = Doc.key(4, at, 0);
    retagWithKey(letter, Doc.key(3, at, 0));
  }

  /** The letter's TAG becomes the right one for a SESSION that turns from this ROOT by its own SECRET. */
  void retagTurning(int letter, long root, BigInteger own) {
    retag(letter, chainOf(letter, root, own));
  }

  // ---- what can be told of it

  /** All that can be told now. */
  String state() {
    return stateWithoutOnce(-1);
  }

  /** All that can be told now, but for the ONCE keys of a user that are there at the DIRECTORY. */
  String stateWithoutOnce(int aside) {
    StringBuilder s = new StringBuilder();
    for (int what = 0; what < 5; what++) s.append(count(what)).append(' ');
    for (int i = 0; i < count(3); i++) s.append(byteOf(i)).append(' ');
    for (int u = 0; user(u, 0) >= 0; u++) {
      for (int what = 0; what < 8; what++) if (u != aside || what != 2 && what != 3) s.append(user(u, what)).append(' ');
      for (int what = 0; what < 5; what++) if (u != aside || what != 4) s.append(number(u, what)).append(' ');
      for (int v = 0; user(v, 0) >= 0; v++) tellRow(s, u, v);
    }
    // Behind very many calls each new object has few left, so that all letters' bytes would need too many objects.
    int first = changes.size() > LONG_RUN ? Math.max(0, count(0) - 2) : 0;
    for (int l = 0; l < count(0); l++) s.append(readable(l)).append(' ');
    for (int l = first; l < count(0); l++) {
      s.append("\nletter ");
      int size = letter(l, -1);
      for (int i = 0; i < size; i++) s.append(letter(l, i)).append(' ');
    }
    return s.toString();
  }

  private void tellRow(StringBuilder s, int u, int v) {
    if (u == v) return;
    int mine = sessions(u, v), other = sessions(v, u);
    s.append("\nrow ").append(u).append(' ').append(v).append(' ').append(mine).append(' ');
    for (int i = 0; i < mine; i++) {
      for (int what = 0; what < 8; what++) s.append(session(u, v, i, what)).append(' ');
      for (int what = 0; what < 5; what++) s.append(inside(u, v, i, what)).append(' ');
      for (int j = 0; j < other; j++) s.append(same(u, v, i, j)).append(' ');
    }
  }

  /** How many calls more a test can make for everything(), of this one and of a twin with one call more. */
  int room() {
    return Math.min(MOST_AFTERWARDS, CALLS - 2 - changes.size());
  }

  /**
   * All that can be told now, and what is answered to so many calls more, made on a twin: what no call tells, as
   * which SECRETS and keys are kept, comes out there.
   */
  String everything(int room) {
    if (told != null && toldRoom == room) return told;
    StringBuilder s = new StringBuilder(state());
    Post after = twin();
    after.goOn(s, after.changes.size() + room);
    s.append(after.state());
    told = s.toString();
    toldRoom = room;
    return told;
  }

  private void goOn(StringBuilder s, int most) {
    int letters = count(0);
    for (int l = letters - 1; l >= 0 && changes.size() < most; l--) s.append(come(l, letter(l, 2))).append(' ');
    for (int u = 0; user(u, 0) >= 0; u++) {
      if (changes.size() + 4 < most) s.append(publish(u, 1)).append(' ').append(feed(u, 1, 2, 3, 4)).append(' ');
      for (int v = 0; user(v, 0) >= 0; v++) {
        if (v == u || changes.size() + 4 >= most) continue;
        s.append(feed(u, v, 2, 3, 4)).append(' ').append(end(2)).append(' ').append(write(u, v)).append(' ');
        s.append(come(count(0) - 1, v)).append(' ');
      }
    }
    for (int u = 0; user(u, 0) >= 0; u++) {
      int v = (u + 1) % 2;
      if (changes.size() + 4 >= most) break;
      s.append(look(u)).append(' ').append(begin(u, v)).append(' ').append(rotate(u)).append(' ');
    }
  }
}
