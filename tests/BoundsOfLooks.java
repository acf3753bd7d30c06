/** Part 5: what stands in a memory and what does not, and what can be worked out of it, on both sides of each bound. */
public final class BoundsOfLooks extends Check {
  public static void main(String[] args) {
    of("5: the SECRETS of LENT keys that it keeps: the newest two"); lentKeys();
    of("5: the SECRETS of ONCE keys that it keeps: till they are used"); onceKeys();
    of("5: a ROOT from the first COMMONS (all four)"); fourCommons();
    of("5: a ROOT from the first COMMONS (three); a ONCE key that is 0 needs nothing"); threeCommons();
    of("5: the SECRET of the IDENTITY"); identity();
    of("5: the SENDING chain"); sendingChain();
    of("5: the RECEIVING chain"); receivingChain();
    of("5: KEPT keys"); keptKeys();
    of("5: KEPT keys of two chains"); keptOfTwoChains();
    of("5: 20 KEPT keys"); twentyKept();
    of("5: KEPT keys of places that no letter has"); keptBehindAllLetters();
    of("5: the ROOT and the own SECRET"); rootAndOwn();
    of("5: a KEY from both that it is of"); bothOfAKey();
    of("5: of all SESSIONS"); allSessions();
    of("5: RETIRED ones stand in no memory"); retired();
    of("5: e's SECRET stands in no memory"); noMemoryOfE();
    of("5: who has not REGISTERED"); notRegistered();
    of("5: at all LOOKS"); severalLooks();
    of("22: as it was written; a copy: as the first one"); asItWasWritten();
    of("22: what is got stays got"); staysGot();
    of("21: how many LOOKS there were"); howMany();
    end("all bounds of looks hold");
  }

  private static void lentKeys() {
    for (int before = 0; before < 3; before++) {
      for (int after = 0; after < 4; after++) {
        Post x = Post.registered(2, 1000);
        for (int i = 0; i < before; i++) x.rotate(1);
        int l = x.send(0, 1, 1);
        for (int i = 0; i < after; i++) x.rotate(1);
        x.look(1);
        due("LENT key " + (before + 1) + ", " + after + " later", x.readable(l), after < 2 ? 1 : 0);
        // Whoever LOOKED before it was made has not got it.
        x.forget(0, 1);
        x.rotate(1);
        due("a newer one than the LOOK", x.readable(x.send(0, 1, 1)), 0);
      }
    }
    // 20 LENT keys: the SECRETS of 19 and 20.
    for (int number = 18; number <= 20; number++) {
      Post x = Post.registered(2, 1001);
      for (int i = 1; i < number; i++) x.rotate(1);
      int l = x.send(0, 1, 1);
      for (int i = number; i < 20; i++) x.rotate(1);
      x.look(1);
      due("LENT key " + number + " of 20", x.readable(l), number >= 19 ? 1 : 0);
    }
  }

  private static void onceKeys() {
    // LOOKED before it was made, when it was there, when it was fetched, when it was used.
    for (int when = 0; when < 5; when++) {
      Post x = Post.registered(2, 1002);
      if (when == 0) x.look(1);
      x.publish(1, 1);
      if (when == 1) x.look(1);
      int l = x.send(0, 1, 1);
      if (when == 2) x.look(1);
      x.spoil(l, 40, 1);
      due("come", x.come(l, 1), -14);
      x.spoil(l, 40, 1);
      if (when == 3) x.look(1);
      due("come", x.come(l, 1), 1);
      if (when == 4) x.look(1);
      due("LOOKED at " + when, x.readable(l), when >= 1 && when <= 3 ? 1 : 0);
    }
    // The first, one between and the last of 60.
    for (int number : new int[] {1, 2, 12, 13, 59, 60}) {
      Post x = Post.registered(2, 1003);
      for (int i = 1; i <= 60; i++) {
        if (i % 12 == 1) x.publish(1, 12);
        if (i < number) x.begin(0, 1);
        if (i >= number && i % 12 == 0) break;
      }
      x.forget(0, 1);
      int l = x.send(0, 1, 1);
      due("its ONCE key", x.bytesOf(l, 21, 2), number);
      due("not LOOKED", x.readable(l), 0);
      x.look(1);
      due("ONCE key " + number, x.readable(l), 1);
    }
  }

  /** Of a ROOT with a ONCE key who LOOKED needs the IDENTITY's, the LENT key's and the ONCE key's SECRET. */
  private static void fourCommons() {
    for (int looks = 0; looks < 4; looks++) {
      Post x = Post.registered(2, 1004);
      // It has the IDENTITY and the LENT key, the ONCE key is not made yet.
      if (looks % 2 == 1) x.look(1);
      x.publish(1, 1);
      int l = x.send(0, 1, 1);
      due("not yet", x.readable(l), 0);
      x.rotate(1);
      x.rotate(1);
      // It has the IDENTITY and the ONCE key, the LENT key is RETIRED.
      if (looks >= 2) x.look(1);
      due("LOOKS " + looks, x.readable(l), looks == 3 ? 1 : 0);
      due("its second letter", x.readable(x.send(0, 1, 1)), looks == 3 ? 1 : 0);
    }
  }

  private static void threeCommons() {
    for (int looks = 0; looks < 2; looks++) {
      Post x = Post.registered(2, 1005);
      if (looks == 1) x.look(1);
      int l = x.send(0, 1, 1);
      due("without a ONCE key", x.readable(l), looks);
      x.publish(1, 1);
      x.begin(0, 1);
      due("with one", x.readable(x.send(0, 1, 1)), 0);
      x.begin(0, 1);
      due("without one again", x.readable(x.send(0, 1, 1)), looks);
    }
  }

  /** Who begins has its IDENTITY in A alone, and A's LENT key is needed for C too: so its IDENTITY's SECRET helps nobody. */
  private static void identity() {
    Post x = Post.registered(3, 1006);
    x.look(0);
    int l = x.send(0, 1, 1);
    due("the IDENTITY of who writes", x.readable(l), 0);
    x.look(2);
    due("the IDENTITY of another one", x.readable(l), 0);
    x.rotate(1);
    x.rotate(1);
    x.look(1);
    due("both IDENTITIES, without the LENT key", x.readable(l), 0);
    // A by 0's IDENTITY, B by 1's, the chain by 0's pair: C needs the LENT key.
    for (int rotated = 1; rotated <= 2; rotated++) {
      Post y = Post.registered(2, 1006);
      int first = y.send(0, 1, 1);
      y.look(0);
      for (int i = 0; i < rotated; i++) y.rotate(1);
      due("without 1's IDENTITY", y.readable(first), 0);
      y.look(1);
      due("the LENT key, " + rotated + " later", y.readable(first), rotated == 1 ? 1 : 0);
    }
  }

  private static void sendingChain() {
    for (int ns = 0; ns <= 3; ns++) {
      Post x = Post.registered(2, 1007);
      x.publish(1, 1);
      x.begin(0, 1);
      for (int i = 0; i < ns; i++) x.send(0, 1, 1);
      x.look(0);
      for (int i = ns; i < 5; i++) x.send(0, 1, 1);
      for (int i = 0; i < 5; i++) due("place " + i + " of NS = " + ns, x.readable(i), i >= ns ? 1 : 0);
    }
  }

  private static void receivingChain() {
    for (int nr = 1; nr <= 4; nr++) {
      Post x = Post.registered(2, 1008);
      x.publish(1, 1);
      for (int i = 0; i < nr; i++) x.deliver(0, 1, 1);
      for (int i = nr; i < 5; i++) x.send(0, 1, 1);
      x.look(1);
      x.send(0, 1, 1);
      for (int i = 0; i < 6; i++) due("place " + i + " of NR = " + nr, x.readable(i), i >= nr ? 1 : 0);
    }
  }

  private static void keptKeys() {
    for (int gone = -1; gone < 10; gone++) {
      Post x = Post.registered(2, 1009);
      x.publish(1, 1);
      for (int i = 0; i < 12; i++) x.send(0, 1, 1);
      due("come", x.come(10, 1), 1);
      if (gone >= 0) due("come of a KEPT one", x.come(gone, 1), 1);
      x.look(1);
      for (int i = 0; i < 10; i++) due("KEPT " + i + " without " + gone, x.readable(i), i == gone ? 0 : 1);
      due("opened by the chain", x.readable(10), 0);
      due("behind it", x.readable(11), 1);
    }
    // Keys of the old chain, behind a turn.
    Post x = Post.registered(2, 1010);
    x.publish(1, 1);
    for (int i = 0; i < 4; i++) x.send(0, 1, 1);
    due("come", x.come(1, 1), 1);
    x.deliver(1, 0, 1);
    int turns = x.send(0, 1, 1), next = x.send(0, 1, 1);
    due("come", x.come(turns, 1), 1);
    due("KEPT", x.session(1, 0, 0, 3), 3);
    x.look(1);
    int[] want = {1, 0, 1, 1};
    for (int i = 0; i < 4; i++) due("of the old chain " + i, x.readable(i), want[i]);
    due("its turn", x.readable(turns), 0);
    due("behind it", x.readable(next), 1);
  }

  /** KEPT keys of two chains, of which each one in turn is gone. */
  private static void keptOfTwoChains() {
    for (int gone = 0; gone < 6; gone++) {
      Post x = Post.registered(2, 1023);
      x.publish(1, 1);
      for (int i = 0; i < 4; i++) x.send(0, 1, 1);
      due("come", x.come(3, 1), 1);
      x.deliver(1, 0, 1);
      int[] kept = {0, 1, 2, x.send(0, 1, 1), x.send(0, 1, 1), x.send(0, 1, 1)};
      due("come", x.come(x.send(0, 1, 1), 1), 1);
      due("KEPT", x.session(1, 0, 0, 3), 6);
      due("come of a KEPT one", x.come(kept[gone], 1), 1);
      x.look(1);
      for (int i = 0; i < 6; i++) due("KEPT " + i + " without " + gone, x.readable(kept[i]), i == gone ? 0 : 1);
      due("opened by the old chain", x.readable(3), 0);
    }
  }

  /** A LOOK at a SESSION with as many KEPT keys as can be. */
  private static void twentyKept() {
    Post x = Post.registered(2, 1024);
    x.publish(1, 1);
    for (int i = 0; i < 23; i++) x.feedAndWrite(0, 1);
    due("come", x.come(10, 1), 20);
    due("come", x.come(21, 1), 20);
    due("KEPT", x.session(1, 0, 0, 3), 20);
    x.look(1);
    for (int i = 0; i < 23; i++) due("place " + i, x.readable(i), i == 10 || i == 21 ? 0 : 1);
  }

  /** 80 letters have the places 0 .. 79; the last one is spoilt so that it is the 90th of its chain. */
  private static void keptBehindAllLetters() {
    Post x = Post.registered(2, 1025);
    x.publish(1, 1);
    for (int i = 0; i < 80; i++) x.feedAndWrite(0, 1);
    for (int i = 0; i < 79; i++) due("come", x.come(i, 1), 20);
    long chain = x.inside(1, 0, 0, 2);
    for (int place = 79; place < 89; place++) chain = key(4, chain, 0);
    x.overwrite(79, 33, 89, 2);
    x.retagWithKey(79, key(3, chain, 0));
    due("come", x.come(79, 1), 20);
    due("KEPT", x.session(1, 0, 0, 3), 10);
    due("NR", x.session(1, 0, 0, 1), 90);
    due("look", x.look(1), 1);
    for (int i = 0; i < 80; i++) due("letter " + i, x.readable(i), i == 79 ? 1 : 0);
  }

  /** Behind a LOOK at 0 its own SECRET opens one turn of the other one; the next one has new pairs on both sides. */
  private static void rootAndOwn() {
    for (int turns = 0; turns < 3; turns++) {
      Post x = Post.registered(2, 1011);
      x.publish(1, 1);
      x.deliver(0, 1, 1);
      x.deliver(1, 0, 1);
      for (int i = 0; i < turns; i++) {
        x.deliver(0, 1, 1);
        x.deliver(1, 0, 1);
      }
      x.look(0);
      int before = x.count(0) - 1;
      due("come before it", x.readable(before), 0);
      due("the chain that is there at 1", x.readable(x.send(1, 0, 1)), 1);
      int a = x.deliver(0, 1, 1);
      due("SENDING", x.readable(a), 1);
      int b = x.deliver(1, 0, 1);
      due("the ROOT and its own SECRET", x.readable(b), 1);
      int c = x.deliver(0, 1, 1);
      due("new pairs on both sides", x.readable(c), 0);
      due("and for ever", x.readable(x.deliver(1, 0, 1)), 0);
      x.look(1);
      due("the second LOOK reads none before it", x.readable(c), 0);
      due("but its chain", x.readable(x.send(1, 0, 1)), 1);
    }
  }

  private static void bothOfAKey() {
    // The first ROOT is worked out, so the first chain by the LENT key's SECRET is; the answer's needs a pair's SECRET.
    Post x = Post.registered(2, 1012);
    x.look(1);
    int a = x.deliver(0, 1, 1);
    due("ROOT and COMMON of the LENT key", x.readable(a), 1);
    int b = x.send(1, 0, 1);
    due("ROOT without COMMON", x.readable(b), 0);
    Post z = x.twin();
    z.look(0);
    due("ROOT and COMMON of 0's pair", z.readable(b), 1);
    x.come(b, 0);
    x.look(0);
    due("0's pair is another one now", x.readable(b), 0);
    Post y = x.twin();
    y.look(1);
    due("ROOT and COMMON of 1's pair", y.readable(b), 1);
    // The same pair, but not the ROOT: the ONCE key is not got.
    for (int once = 0; once < 2; once++) {
      Post w = Post.registered(2, 1013);
      w.publish(1, once);
      w.look(1);
      w.publish(1, 1);
      int first = w.deliver(0, 1, 1);
      int answer = w.send(1, 0, 1);
      w.look(1);
      due("its own chain's place is behind", w.readable(answer), once);
      due("the first ROOT", w.readable(first), once);
    }
  }

  private static void allSessions() {
    // Four SESSIONS at 1, each with a letter that has not come, and two rows.
    Post x = Post.registered(3, 1014);
    x.publish(1, 12);
    int[] later = new int[5];
    for (int i = 0; i < 4; i++) {
      x.begin(0, 1);
      x.deliver(0, 1, 1);
      later[i] = x.send(0, 1, 1);
    }
    x.begin(2, 1);
    x.deliver(2, 1, 1);
    later[4] = x.send(2, 1, 1);
    x.look(1);
    for (int i = 0; i < 5; i++) due("SESSION " + i, x.readable(later[i]), 1);
    // All begun before the first letter comes.
    Post y = Post.registered(2, 1014);
    y.publish(1, 12);
    for (int i = 0; i < 4; i++) {
      y.begin(0, 1);
      y.send(0, 1, 1);
      y.send(0, 1, 1);
    }
    for (int i = 0; i < 4; i++) due("come", y.come(2 * i, 1), 1);
    y.look(1);
    for (int i = 0; i < 4; i++) {
      due("the first letter of SESSION " + i, y.readable(2 * i), 0);
      due("the second letter of SESSION " + i, y.readable(2 * i + 1), 1);
    }
  }

  private static void retired() {
    for (int how = 0; how < 3; how++) {
      Post x = Post.registered(2, 1015);
      x.publish(1, 12);
      x.deliver(0, 1, 1);
      int kept = x.send(0, 1, 1), skips = x.send(0, 1, 1), next = x.send(0, 1, 1);
      due("come", x.come(skips, 1), 1);
      if (how == 1) x.forget(1, 0);
      for (int i = 0; i < 4 && how == 2; i++) {
        x.begin(0, 1);
        x.deliver(0, 1, 1);
      }
      x.look(1);
      due("a KEPT key, " + how, x.readable(kept), how == 0 ? 1 : 0);
      due("a chain, " + how, x.readable(next), how == 0 ? 1 : 0);
      due("its second LOOK, " + how, x.look(1), 2);
      due("a chain, " + how, x.readable(next), how == 0 ? 1 : 0);
    }
    // At who began it.
    Post y = Post.registered(2, 1016);
    y.publish(1, 12);
    y.send(0, 1, 1);
    for (int i = 0; i < 4; i++) y.begin(0, 1);
    y.deliver(0, 1, 1);
    due("the first one's letter", y.come(0, 1), 1);
    int answer = y.send(1, 0, 1);
    y.look(0);
    due("of the SESSION that is RETIRED at 0", y.readable(answer), 0);
  }

  private static void noMemoryOfE() {
    Post x = Post.registered(2, 1017);
    int first = x.send(0, 1, 1);
    x.look(0);
    due("who wrote it has the pair, but not e", x.readable(first), 0);
    x.look(1);
    due("who is to open it has the IDENTITY and the LENT key", x.readable(first), 1);
    // The SEAL's SECRET is none that a letter needs, and the PUBLIC numbers are known to everybody.
    Post y = Post.registered(3, 1017);
    int l = y.send(0, 1, 1);
    y.look(2);
    due("another one's memory", y.readable(l), 0);
  }

  private static void notRegistered() {
    Post x = new Post(3, 1018);
    due("look", x.look(1), 1);
    x.register(0);
    x.register(1);
    int l = x.send(0, 1, 1);
    due("nothing was there", x.readable(l), 0);
    due("look", x.look(2), 2);
    due("nothing was there", x.readable(l), 0);
    due("look", x.look(1), 3);
    due("now it is", x.readable(l), 1);
  }

  private static void severalLooks() {
    // KEPT at the one LOOK, the chain at the other.
    Post x = Post.registered(2, 1019);
    x.publish(1, 1);
    for (int i = 0; i < 5; i++) x.send(0, 1, 1);
    due("come", x.come(1, 1), 1);
    x.look(1);
    int[] first = {1, 0, 1, 1, 1};
    for (int i = 0; i < 5; i++) due("letter " + i, x.readable(i), first[i]);
    due("come", x.come(0, 1), 1);
    due("come", x.come(4, 1), 1);
    x.look(1);
    for (int i = 0; i < 5; i++) due("letter " + i + " behind the second", x.readable(i), first[i]);
    // A later LOOK at the same chain gives nothing more, an earlier one gave more.
    Post y = Post.registered(2, 1019);
    y.publish(1, 1);
    for (int i = 0; i < 3; i++) y.send(0, 1, 1);
    y.look(0);
    for (int i = 0; i < 3; i++) y.send(0, 1, 1);
    y.look(0);
    for (int i = 0; i < 6; i++) due("place " + i, y.readable(i), i >= 3 ? 1 : 0);
  }

  private static void asItWasWritten() {
    Post x = Post.registered(2, 1020);
    x.publish(1, 1);
    int a = x.send(0, 1, 1);
    x.look(0);
    int b = x.send(0, 1, 1);
    int copyOfA = x.copy(a), copyOfB = x.copy(b), copyOfCopy = x.copy(copyOfB);
    int[] all = {a, b, copyOfA, copyOfB, copyOfCopy}, want = {0, 1, 0, 1, 1};
    for (int i = 0; i < 5; i++) due("letter " + i, x.readable(all[i]), want[i]);
    for (int i = 0; i < x.letter(a, -1); i++) {
      x.overwrite(a, i, x.letter(b, i), 1);
      x.overwrite(copyOfB, i, x.letter(copyOfA, i), 1);
    }
    for (int i = 0; i < 5; i++) due("letter " + i + ", spoilt", x.readable(all[i]), want[i]);
    due("a copy of a spoilt one", x.readable(x.copy(a)), 0);
    due("a copy of a spoilt copy", x.readable(x.copy(copyOfB)), 1);
    due("come", x.come(a, 1), 1);
    for (int i = 0; i < 5; i++) due("letter " + i + ", opened", x.readable(all[i]), want[i]);
  }

  private static void staysGot() {
    Post x = Post.registered(2, 1021);
    x.publish(1, 2);
    for (int i = 0; i < 3; i++) x.send(0, 1, 1);
    due("come", x.come(1, 1), 1);
    x.look(1);
    int[] want = {1, 0, 1};
    for (int i = 0; i < 3; i++) due("letter " + i, x.readable(i), want[i]);
    for (int i = 0; i < 3; i += 2) due("come", x.come(i, 1), 1);
    x.forget(0, 1);
    x.forget(1, 0);
    x.rotate(1);
    x.rotate(1);
    for (int i = 0; i < 3; i++) due("letter " + i + " afterwards", x.readable(i), want[i]);
  }

  private static void howMany() {
    Post x = Post.registered(2, 1022);
    for (int i = 1; i <= 300; i++) due("look", x.look(i % 2), i);
    due("LOOKS", x.count(2), 300);
    due("look(2)", x.look(2), BAD);
    due("LOOKS", x.count(2), 300);
  }
}
