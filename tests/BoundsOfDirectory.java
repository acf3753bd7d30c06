/** Part 2: 12 ONCE keys at most, the newest two LENT keys, SECRETS till they are used, the least one, or none. */
public final class BoundsOfDirectory extends Check {
  public static void main(String[] args) {
    of("2: of each user that REGISTERED"); registering();
    of("2: ONCE keys, 12 at most"); twelve();
    of("2: LENT keys have numbers 1, 2, .."); lentNumbers();
    of("2: ONCE keys have numbers 1, 2, .. as the user made them"); onceNumbers();
    of("2: a user keeps of LENT keys the newest two"); newestTwo();
    of("2: a session that is there needs its LENT key no more"); lentAfterwards();
    of("2: of ONCE keys till they are used"); tillUsed();
    of("2: the least ONCE key that is there, which is there no more"); least();
    of("2: or none"); none();
    end("all bounds of the directory hold");
  }

  private static void registering() {
    Post x = new Post(3, 700);
    for (int what = 0; what < 8; what++) due("user(1, " + what + ") before", x.user(1, what), 0);
    for (int what = 0; what < 5; what++) due("number(1, " + what + ") before", x.number(1, what), 0);
    x.register(1);
    due("IDENTITY is the first draw", x.number(1, 0), open(secret(701, 1)));
    due("LENT is the second", x.number(1, 1), open(secret(701, 2)));
    due("the SEAL's is the third", x.number(1, 2), open(secret(701, 3)));
    due("t", x.number(1, 3), proof(701, 3, open(secret(701, 2))));
    due("no ONCE key", x.number(1, 4), 0);
    int[] want = {1, 1, 0, 0, 0, 3, 0, 0};
    for (int what = 0; what < 8; what++) due("user(1, " + what + ")", x.user(1, what), want[what]);
    for (int what = 0; what < 8; what++) due("user(0, " + what + ")", x.user(0, what), 0);
  }

  private static void twelve() {
    Post x = Post.registered(2, 710);
    due("eleven", x.publish(1, 11), 11);
    due("twelve", x.publish(1, 1), 12);
    due("thirteen", x.publish(1, 1), FULL);
    for (int i = 0; i < 12; i++) {
      due("there", x.user(1, 2), 12 - i);
      due("the least", x.user(1, 3), i + 1);
      x.begin(0, 1);
    }
    due("there", x.user(1, 2), 0);
    due("SECRETS of those that are not there", x.user(1, 6), 12);
    due("twelve at once", x.publish(1, 12), 12);
    due("SECRETS of both", x.user(1, 6), 24);
  }

  private static void lentNumbers() {
    Post x = Post.registered(2, 720);
    for (int k = 1; k <= 20; k++) {
      due("LENT key's number", x.user(1, 1), k);
      int drawn = x.user(1, 5);
      due("LENT", x.number(1, 1), open(secret(721, drawn - 1)));
      due("R", x.number(1, 2), open(secret(721, drawn)));
      due("t", x.number(1, 3), proof(721, drawn, x.number(1, 1)));
      int l = x.send(0, 1, 1);
      due("it stands in the letter", x.bytesOf(l, 19, 2), k);
      due("come", x.come(l, 1), 1);
      x.forget(0, 1);
      x.rotate(1);
    }
  }

  private static void onceNumbers() {
    Post x = Post.registered(2, 730);
    int made = 0;
    for (int round = 0; round < 5; round++) {
      int drawn = x.user(1, 5);
      x.publish(1, 12);
      for (int i = 1; i <= 12; i++) {
        made++;
        due("the least", x.user(1, 3), made);
        due("its PUBLIC number", x.number(1, 4), open(secret(731, drawn + i)));
        int l = x.send(0, 1, 1);
        due("it stands in the letter", x.bytesOf(l, 21, 2), made);
        if (i % 3 == 0) due("come", x.come(l, 1), 1);
        x.forget(0, 1);
      }
    }
    due("made", x.user(1, 4), 60);
    due("SECRETS", x.user(1, 6), 40);
  }

  private static void newestTwo() {
    for (int later = 0; later <= 4; later++) {
      Post x = Post.registered(2, 740);
      x.publish(1, 2);
      x.rotate(1);
      int l = x.send(0, 1, 3);
      x.begin(0, 1);
      int withoutOnce = x.send(0, 1, 4);
      for (int i = 0; i < later; i++) x.rotate(1);
      if (later < 2) {
        due("come, " + later + " later", x.come(l, 1), 3);
        due("come, " + later + " later", x.come(withoutOnce, 1), 4);
      } else {
        fault(later + " later", x, l, 1, 7);
        fault(later + " later", x, withoutOnce, 1, 7);
      }
    }
    // The first LENT key is the second newest, then none of the newest two.
    Post y = Post.registered(2, 741);
    int a = y.send(0, 1, 1);
    y.rotate(1);
    due("LENT key 1 of 2", y.twin().come(a, 1), 1);
    y.rotate(1);
    fault("LENT key 1 of 3", y, a, 1, 7);
  }

  private static void lentAfterwards() {
    Post x = Post.registered(2, 745);
    x.deliver(0, 1, 1);
    int second = x.send(0, 1, 2);
    for (int i = 0; i < 19; i++) x.rotate(1);
    due("with a BEGINNING whose LENT key is RETIRED", x.come(second, 1), 2);
    due("an answer", x.come(x.send(1, 0, 3), 0), 3);
  }

  private static void tillUsed() {
    Post x = Post.registered(2, 750);
    x.publish(1, 3);
    due("made", x.user(1, 6), 3);
    int first = x.send(0, 1, 1);
    int second = x.send(0, 1, 2);
    due("fetched", x.user(1, 6), 3);
    x.spoil(first, 40, 1);
    fault("spoilt", x, first, 1, 4);
    due("a letter that was refused", x.user(1, 6), 3);
    x.spoil(first, 40, 1);
    due("come", x.come(first, 1), 1);
    due("used", x.user(1, 6), 2);
    due("come", x.come(second, 1), 2);
    due("a second letter of it", x.user(1, 6), 2);
    // Another BEGINNING that bears a used one's number is refused, one that bears a kept one's is not for that.
    x.begin(0, 1);
    int third = x.send(0, 1, 3);
    due("its ONCE key", x.bytesOf(third, 21, 2), 2);
    x.overwrite(third, 21, 1, 2);
    fault("used", x, third, 1, 8);
    x.overwrite(third, 21, 3, 2);
    fault("kept, but another one's", x, third, 1, 4);
    x.overwrite(third, 21, 4, 2);
    fault("not made yet", x, third, 1, 8);
    x.publish(1, 1);
    fault("made now", x, third, 1, 4);
    x.overwrite(third, 21, 2, 2);
    due("as it was", x.come(third, 1), 3);
    due("used", x.user(1, 6), 2);
    due("there", x.user(1, 2), 2);
  }

  /** A letter that uses a ONCE key which is still there takes nothing from the DIRECTORY: a BUNDLE bears it later. */
  private static void least() {
    Post x = Post.registered(2, 760);
    x.publish(1, 3);
    int l = x.send(0, 1, 1);
    x.overwrite(l, 21, 2, 2);
    x.retagTurning(l, x.rootAtReader(l, identityOf(761), lentOf(761), secret(761, 5)), lentOf(761));
    due("come with ONCE key 2", x.come(l, 1), 1);
    due("SECRETS", x.user(1, 6), 2);
    due("there", x.user(1, 2), 2);
    due("the least", x.user(1, 3), 2);
    x.begin(0, 1);
    int second = x.send(0, 1, 2);
    due("a BUNDLE with ONCE key 2", x.bytesOf(second, 21, 2), 2);
    fault("it is used", x, second, 1, 8);
    x.begin(0, 1);
    int third = x.send(0, 1, 3);
    due("a BUNDLE with ONCE key 3", x.bytesOf(third, 21, 2), 3);
    due("come", x.come(third, 1), 3);
    due("SECRETS", x.user(1, 6), 1);
  }

  private static void none() {
    Post x = Post.registered(2, 770);
    x.publish(1, 1);
    int with = x.send(0, 1, 1);
    due("the last one", x.bytesOf(with, 21, 2), 1);
    x.begin(0, 1);
    int without = x.send(0, 1, 2);
    due("none", x.bytesOf(without, 21, 2), 0);
    due("numbers drawn without one", x.user(0, 5), 7);
    long root = x.rootAtReader(without, identityOf(771), lentOf(771), null);
    due("D is 0", x.inside(0, 1, 0, 0), key(1, root, common(secret(770, 7), x.number(1, 1))));
    due("come without one", x.come(without, 1), 2);
    due("SECRETS", x.user(1, 6), 1);
    due("come with one", x.come(with, 1), 1);
    due("SECRETS", x.user(1, 6), 0);
    x.begin(0, 1);
    int third = x.send(0, 1, 3);
    due("come without one again", x.come(third, 1), 3);
  }
}
