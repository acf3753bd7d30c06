/**
 * Part 3: rows of at most 4, the one used last first; at most 20 KEPT keys, not more than 10 at once; USED; no
 * RECEIVING chain; and that a letter which is not right leaves everything as it was.
 */
public final class BoundsOfSessions extends Check {
  public static void main(String[] args) {
    of("3: a row of at most 4, with one more the last is RETIRED (begun)"); rowOfBegun();
    of("3: a row of at most 4, with one more the last is RETIRED (made by a letter)"); rowOfMade();
    of("3: for each other one a row"); rowsApart();
    of("3: the one that was used last first"); usedLast();
    of("3: a letter that is refused uses none"); refusedUsesNone();
    of("3: NS, NR, PN (0 at first)"); atFirst();
    of("3: the BEGINNING goes with it until a letter of the other one was opened in it"); beginningGoes();
    of("3: if a KEPT key is there of p and n: that is it"); keptKey();
    of("3: keys of places NR .. pn - 1 are KEPT (if pn is above NR)"); oldChain();
    of("3: with RECEIVING: else pn says nothing"); pnWithoutReceiving();
    of("3: PN is NS, NS and NR 0"); turned();
    of("3: USED, if p is the other's and n is below NR"); used();
    of("3: SKIPPED: more than 10 at once, in the chain that is there"); tenAtOnce();
    of("3: SKIPPED: more than 10 at once, in a new SESSION"); tenInNew();
    of("3: SKIPPED: more than 10 at once, of the old chain and of the new one together"); tenTogether();
    of("3: SKIPPED: or have more than 20"); twenty();
    of("3: SKIPPED: or have more than 20, of a letter that TURNS"); twentyTurning();
    of("3: SKIPPED: a letter of a chain that is gone would turn, and KEEP keys"); goneChain();
    of("3: SKIPPED: the highest numbers"); highest();
    of("3: p the other's and no RECEIVING chain: as a wrong TAG"); noReceiving();
    of("3: else nothing has: no SESSION, no draw is other than before"); nothingHas();
    end("all bounds of sessions hold");
  }

  private static void rowOfBegun() {
    Post x = Post.registered(2, 800);
    long[] own = new long[7];
    for (int i = 0; i < 7; i++) {
      due("begin", x.begin(0, 1), 1);
      own[i] = x.inside(0, 1, 0, 3);
      int many = Math.min(4, i + 1);
      due("sessions", x.sessions(0, 1), many);
      due("in all", x.user(0, 7), many);
      for (int k = 0; k < many; k++) due("session " + k + " of " + (i + 1), x.inside(0, 1, k, 3), own[i - k]);
      due("no session more", x.session(0, 1, many, 0), BAD);
    }
    due("the other one has none", x.sessions(1, 0), 0);
  }

  /** Five SESSIONS begun by 0 with 1, each with one letter. */
  private static Post fiveBegun(int seed, int[] letters) {
    Post x = Post.registered(2, seed);
    for (int i = 0; i < 5; i++) {
      x.begin(0, 1);
      letters[i] = x.send(0, 1, i + 1);
    }
    return x;
  }

  private static void rowOfMade() {
    int[] l = new int[5];
    Post x = fiveBegun(801, l);
    due("sessions of who began", x.sessions(0, 1), 4);
    for (int i = 0; i < 4; i++) {
      due("come", x.come(l[i], 1), i + 1);
      due("sessions", x.sessions(1, 0), i + 1);
    }
    int second = x.send(1, 0, 9);
    // In a full row a letter that is refused RETIRES none.
    x.spoil(l[4], 40, 1);
    fault("a fifth that is spoilt", x, l[4], 1, 4);
    x.spoil(l[4], 40, 1);
    long first = x.inside(1, 0, 3, 4), next = x.inside(1, 0, 2, 4);
    due("come", x.come(l[4], 1), 5);
    due("sessions", x.sessions(1, 0), 4);
    due("the last one is another", x.inside(1, 0, 3, 4), next);
    holds("the first one made is gone", first != x.inside(1, 0, 3, 4));
    fault("its BEGINNING begins none again", x, l[0], 1, 9);
    fault("the second one's is there", x, l[1], 1, 6);
    due("an answer goes to the session of who wrote it", x.come(second, 0), 9);
    // The one that 0 had RETIRED: an answer in it finds none that fits.
    Post y = fiveBegun(801, l);
    due("come", y.come(l[0], 1), 1);
    int answer = y.send(1, 0, 7);
    fault("of the one that is RETIRED at 0", y, answer, 0, 4);
    Post z = Post.registered(2, 801);
    for (int i = 0; i < 4; i++) {
      z.begin(0, 1);
      l[i] = z.send(0, 1, i + 1);
    }
    due("come", z.come(l[0], 1), 1);
    due("of the last one that is there", z.come(z.send(1, 0, 7), 0), 7);
  }

  private static void rowsApart() {
    Post x = Post.registered(4, 802);
    for (int v = 1; v < 4; v++) for (int i = 0; i < 4; i++) x.begin(0, v);
    due("in all", x.user(0, 7), 12);
    x.begin(0, 2);
    due("in all", x.user(0, 7), 12);
    for (int v = 1; v < 4; v++) due("with " + v, x.sessions(0, v), 4);
    for (int u = 1; u < 4; u++) x.come(x.send(u, 0, u), 0);
    for (int v = 1; v < 4; v++) due("begun by 0 with " + v, x.session(0, v, 0, 5), 0);
    due("in all", x.user(0, 7), 12);
    due("forget", x.forget(0, 2), 4);
    due("in all", x.user(0, 7), 8);
    due("with 1", x.sessions(0, 1), 4);
    due("with 3", x.sessions(0, 3), 4);
  }

  /** Four SESSIONS at 1, made by 0's letters; a second letter of each has not come. */
  private static Post fourMade(int seed, int[] later) {
    Post x = Post.registered(2, seed);
    for (int i = 0; i < 4; i++) {
      x.begin(0, 1);
      x.deliver(0, 1, 1);
      later[i] = x.send(0, 1, 10 + i);
    }
    return x;
  }

  private static void usedLast() {
    for (int i = 0; i < 4; i++) {
      int[] later = new int[4];
      Post x = fourMade(803, later);
      long[] before = new long[4];
      for (int k = 0; k < 4; k++) before[k] = x.inside(1, 0, k, 3);
      // Letter later[i] is of session 3 - i at 1.
      due("come", x.come(later[i], 1), 10 + i);
      int moved = 3 - i;
      due("the one used last", x.inside(1, 0, 0, 3), before[moved]);
      for (int k = 1; k < 4; k++) due("behind it " + k, x.inside(1, 0, k, 3), before[k <= moved ? k - 1 : k]);
      due("sessions", x.sessions(1, 0), 4);
      // Writing is in the first one, and moves none.
      String row = row(x);
      x.send(1, 0, 2);
      due("NS of the first", x.session(1, 0, 0, 0), 1);
      due("row behind a letter written", row(x).equals(row) ? 1 : 0, 1);
      x.begin(1, 0);
      due("begun", x.session(1, 0, 0, 5), 1);
      for (int k = 1; k < 4; k++) due("RETIRED is the last: " + k, x.inside(1, 0, k, 3), k == 1 ? before[moved] : before[k - 2 < moved ? k - 2 : k - 1]);
    }
  }

  private static String row(Post x) {
    StringBuilder s = new StringBuilder();
    for (int k = 0; k < 4; k++) s.append(x.inside(1, 0, k, 3)).append(' ');
    return s.toString();
  }

  private static void refusedUsesNone() {
    int[] later = new int[4];
    Post x = fourMade(804, later);
    for (int i = 0; i < 4; i++) {
      x.spoil(later[i], 42, 1);
      fault("spoilt", x, later[i], 1, 4);
      x.spoil(later[i], 42, 1);
    }
    due("come", x.come(later[0], 1), 10);
    fault("again", x, later[0], 1, 6);
    fault("first letter of another session again", x, 6, 1, 6);
  }

  private static void atFirst() {
    Post x = Post.registered(2, 805);
    x.begin(0, 1);
    int[] begun = {0, 0, 0, 0, 1, 1, 1, 0};
    for (int what = 0; what < 8; what++) due("begun, " + what, x.session(0, 1, 0, what), begun[what]);
    x.deliver(0, 1, 1);
    int[] made = {0, 1, 0, 0, 0, 0, 1, 1};
    for (int what = 0; what < 8; what++) due("made, " + what, x.session(1, 0, 0, what), made[what]);
    due("NS of who wrote", x.session(0, 1, 0, 0), 1);
    due("PN, NS in the first letter", x.bytesOf(0, 31, 4), 0);
  }

  private static void beginningGoes() {
    Post x = Post.registered(2, 806);
    x.publish(1, 2);
    for (int i = 0; i < 3; i++) {
      due("kind", x.letter(x.send(0, 1, 1), 0), 1);
      if (i == 0) x.rotate(1);
    }
    due("come", x.come(0, 1), 1);
    due("it came, but no answer did", x.letter(x.send(0, 1, 1), 0), 1);
    int answer = x.send(1, 0, 2);
    due("who did not begin has none", x.letter(answer, 0), 2);
    due("whether it goes", x.session(1, 0, 0, 4), 0);
    due("an answer that was written only", x.letter(x.send(0, 1, 1), 0), 1);
    x.spoil(answer, 20, 1);
    fault("a spoilt answer", x, answer, 0, 4);
    x.come(answer, 0);
    due("behind a spoilt answer", x.letter(x.send(0, 1, 1), 0), 1);
    due("whether it goes", x.session(0, 1, 0, 4), 1);
    x.spoil(answer, 20, 1);
    due("come", x.come(answer, 0), 2);
    due("whether it goes", x.session(0, 1, 0, 4), 0);
    due("behind an answer", x.letter(x.send(0, 1, 1), 0), 2);
    x.begin(0, 1);
    due("of another session", x.letter(x.send(0, 1, 1), 0), 1);
    due("of the one before", x.session(0, 1, 1, 4), 0);
    // All letters of one SESSION bear the same BEGINNING.
    for (int l = 1; l < 3; l++) for (int place = 3; place < 23; place++) due("BEGINNING's byte " + place, x.letter(l, place), x.letter(0, place));
  }

  private static void keptKey() {
    Post x = Post.registered(2, 807);
    int[] l = new int[5];
    for (int i = 0; i < 5; i++) l[i] = x.send(0, 1, i + 1);
    due("come", x.come(l[3], 1), 4);
    due("KEPT", x.session(1, 0, 0, 3), 3);
    int drawn = x.user(1, 5);
    long root = x.inside(1, 0, 0, 0), receiving = x.inside(1, 0, 0, 2);
    int answer = x.send(1, 0, 7);
    due("come", x.come(answer, 0), 7);
    int turns = x.send(0, 1, 8);
    due("come", x.come(l[1], 1), 2);
    due("KEPT", x.session(1, 0, 0, 3), 2);
    due("NR", x.session(1, 0, 0, 1), 4);
    due("NS", x.session(1, 0, 0, 0), 1);
    due("no turn", x.inside(1, 0, 0, 0), root);
    due("no STEP", x.inside(1, 0, 0, 2), receiving);
    due("no draw", x.user(1, 5), drawn);
    fault("a KEPT key is gone", x, l[1], 1, 6);
    // Behind a turn p is the other's no more, but the KEPT keys of it are there, and it turns nothing.
    due("come", x.come(turns, 1), 8);
    due("KEPT, with one of the old chain", x.session(1, 0, 0, 3), 3);
    root = x.inside(1, 0, 0, 0);
    long other = x.inside(1, 0, 0, 4);
    drawn = x.user(1, 5);
    for (int i : new int[] {4, 0, 2}) due("come of the old chain", x.come(l[i], 1), i + 1);
    due("KEPT", x.session(1, 0, 0, 3), 0);
    due("no turn", x.inside(1, 0, 0, 0), root);
    due("the other's", x.inside(1, 0, 0, 4), other);
    due("no draw", x.user(1, 5), drawn);
    due("NR", x.session(1, 0, 0, 1), 1);
    for (int i = 0; i < 5; i++) fault("it would turn, and has a wrong TAG", x, l[i], 1, 4);
  }

  /** 1 has opened one letter of 0's chain, of which more were written; 0's next letter turns. */
  private static Post turning(int seed, int written, int[] letter) {
    Post x = Post.registered(2, seed);
    x.deliver(0, 1, 1);
    for (int i = 1; i < written; i++) x.send(0, 1, 1);
    x.deliver(1, 0, 2);
    letter[0] = x.send(0, 1, 3);
    return x;
  }

  private static void oldChain() {
    for (int written = 1; written <= 4; written++) {
      int[] l = new int[1];
      Post x = turning(808, written, l);
      due("PN in the letter", x.bytesOf(l[0], 11, 2), written);
      due("come", x.come(l[0], 1), 3);
      due("KEPT of NR = 1 and pn = " + written, x.session(1, 0, 0, 3), written - 1);
      for (int i = 1; i < written; i++) due("come of the old chain", x.come(i, 1), 1);
      due("KEPT", x.session(1, 0, 0, 3), 0);
    }
    // pn below NR, at it and above it: 1 has opened 3 letters.
    for (int pn = 0; pn <= 5; pn++) {
      Post x = Post.registered(2, 809);
      for (int i = 0; i < 3; i++) x.deliver(0, 1, 1);
      x.deliver(1, 0, 2);
      int l = x.send(0, 1, 3);
      x.overwrite(l, 11, pn, 2);
      x.retagTurning(l, x.inside(1, 0, 0, 0), secret(810, x.user(1, 5)));
      due("come with pn " + pn, x.come(l, 1), 3);
      due("KEPT of NR = 3 and pn = " + pn, x.session(1, 0, 0, 3), Math.max(0, pn - 3));
      due("NR", x.session(1, 0, 0, 1), 1);
    }
  }

  private static void pnWithoutReceiving() {
    for (int pn : new int[] {0, 1, 10, 11, 255, 256, 65535}) {
      // A new SESSION.
      Post x = Post.registered(2, 811);
      int l = x.send(0, 1, 3);
      x.overwrite(l, 31, pn, 2);
      x.retagTurning(l, x.rootAtReader(l, identityOf(812), lentOf(812), null), lentOf(812));
      due("come with pn " + pn, x.come(l, 1), 3);
      due("KEPT", x.session(1, 0, 0, 3), 0);
      // The first answer to who began.
      int answer = x.send(1, 0, 4);
      x.overwrite(answer, 11, pn, 2);
      x.retagTurning(answer, x.inside(0, 1, 0, 0), secret(811, 5));
      due("an answer with pn " + pn, x.come(answer, 0), 4);
      due("KEPT", x.session(0, 1, 0, 3), 0);
      // In a chain that is there pn says nothing either.
      int next = x.send(1, 0, 5);
      x.overwrite(next, 11, pn, 2);
      x.retagWithKey(next, key(3, x.inside(0, 1, 0, 2), 0));
      due("no turn, with pn " + pn, x.come(next, 0), 5);
      due("KEPT", x.session(0, 1, 0, 3), 0);
    }
  }

  private static void turned() {
    Post x = Post.registered(2, 813);
    for (int i = 0; i < 3; i++) x.send(0, 1, 1);
    due("come", x.come(2, 1), 1);
    due("KEPT, places 0 and 1", x.session(1, 0, 0, 3), 2);
    for (int i = 0; i < 4; i++) x.send(1, 0, 1);
    due("come", x.come(4, 0), 1);
    int[] at0 = {0, 2, 3, 1, 0, 1, 1, 1};
    for (int what = 0; what < 8; what++) due("0's " + what, x.session(0, 1, 0, what), at0[what]);
    due("numbers drawn by 0", x.user(0, 5), 6);
    int l = x.send(0, 1, 5);
    due("PN, NS in the letter", x.bytesOf(l, 11, 4), 3 << 16);
    due("come", x.come(l, 1), 5);
    int[] at1 = {0, 1, 4, 2, 0, 0, 1, 1};
    for (int what = 0; what < 8; what++) due("1's " + what, x.session(1, 0, 0, what), at1[what]);
    due("the chains meet", x.inside(1, 0, 0, 2), x.inside(0, 1, 0, 1));
    due("the numbers meet", x.inside(1, 0, 0, 4), x.inside(0, 1, 0, 3));
    // The letters that PN stood for are still opened at 0, the old chain's keys are KEPT when 1 turns.
    x.send(1, 0, 6);
    due("come", x.come(8, 0), 6);
    due("KEPT at 0: place 0, and 2, 3 by PN", x.session(0, 1, 0, 3), 3);
  }

  private static void used() {
    Post x = Post.registered(2, 814);
    int[] l = new int[4];
    for (int i = 0; i < 4; i++) l[i] = x.send(0, 1, i + 1);
    due("n = 0 = NR", x.come(l[0], 1), 1);
    fault("n = 0 below NR = 1", x, l[0], 1, 6);
    due("n = 1 = NR", x.come(l[1], 1), 2);
    fault("n = 0 below NR = 2", x, l[0], 1, 6);
    fault("n = 1 below NR = 2", x, l[1], 1, 6);
    due("n = 3 above NR = 2", x.come(l[3], 1), 4);
    due("n = 2 below NR = 4, but KEPT", x.come(l[2], 1), 3);
    fault("n = 2 below NR = 4", x, l[2], 1, 6);
    // USED is told even of a letter whose TAG is wrong, or whose TEXT is.
    x.spoil(l[1], x.letter(l[1], -1) - 1, 1);
    fault("with a wrong TAG", x, l[1], 1, 6);
    x.spoil(l[1], 36, 1);
    fault("with a wrong TEXT", x, l[1], 1, 6);
    // A new SESSION has NR 0, so its first letter is never USED.
    Post y = Post.registered(2, 814);
    fault("n = 0 of a new one, with a wrong TAG", spoilt(y, y.send(0, 1, 1)), 0, 1, 4);
  }

  private static Post spoilt(Post x, int letter) {
    x.spoil(letter, x.letter(letter, -1) - 1, 1);
    return x;
  }

  private static void tenAtOnce() {
    for (int skipped = 9; skipped <= 12; skipped++) {
      Post x = Post.registered(2, 815);
      x.deliver(0, 1, 1);
      int l = 0;
      for (int i = 0; i <= skipped; i++) l = x.send(0, 1, 1 + i);
      if (skipped <= 10) {
        due("come", x.come(l, 1), 1 + skipped);
        due("KEPT", x.session(1, 0, 0, 3), skipped);
        due("NR", x.session(1, 0, 0, 1), skipped + 2);
        for (int i = 1; i <= skipped; i++) due("come of a KEPT one", x.come(i, 1), i);
      } else {
        fault(skipped + " at once", x, l, 1, 5);
        due("the one before the last", x.come(l - 1, 1), skipped == 11 ? skipped : -15);
      }
    }
  }

  private static void tenInNew() {
    for (int skipped = 0; skipped <= 12; skipped += skipped == 1 ? 8 : 1) {
      Post x = Post.registered(2, 816);
      x.publish(1, 1);
      int l = 0;
      for (int i = 0; i <= skipped; i++) l = x.send(0, 1, 1 + i);
      if (skipped <= 10) {
        due("come", x.come(l, 1), 1 + skipped);
        due("KEPT", x.session(1, 0, 0, 3), skipped);
        due("NR", x.session(1, 0, 0, 1), skipped + 1);
      } else {
        fault(skipped + " in a new one", x, l, 1, 5);
        due("SECRETS of ONCE keys", x.user(1, 6), 1);
        due("the first letter", x.come(0, 1), 1);
      }
    }
  }

  private static void tenTogether() {
    int[][] pairs = {{0, 10}, {0, 11}, {1, 9}, {1, 10}, {5, 5}, {5, 6}, {6, 5}, {9, 1}, {9, 2}, {10, 0}, {10, 1}, {11, 0}, {11, 11}};
    for (int[] p : pairs) {
      Post x = Post.registered(2, 817);
      x.deliver(0, 1, 1);
      for (int i = 0; i < p[0]; i++) x.send(0, 1, 2);
      x.deliver(1, 0, 1);
      int l = 0;
      for (int i = 0; i <= p[1]; i++) l = x.send(0, 1, 3);
      String what = p[0] + " of the old chain, " + p[1] + " of the new one";
      if (p[0] + p[1] <= 10) {
        due("come, " + what, x.come(l, 1), 3);
        due("KEPT, " + what, x.session(1, 0, 0, 3), p[0] + p[1]);
        for (int i = 1; i <= p[0]; i++) due("come of the old chain, " + what, x.come(i, 1), 2);
        for (int i = 0; i < p[1]; i++) due("come of the new chain, " + what, x.come(l - 1 - i, 1), 3);
        due("KEPT, " + what, x.session(1, 0, 0, 3), 0);
      } else {
        fault(what, x, l, 1, 5);
      }
    }
  }

  /** 1 has so many KEPT keys (10 .. 20) of a chain of 0's. */
  private static Post withKept(int seed, int many) {
    Post x = Post.registered(2, seed);
    for (int i = 0; i <= many + 1; i++) x.feedAndWrite(0, 1);
    due("come", x.come(many > 10 ? 10 : many, 1), 20);
    if (many > 10) due("come", x.come(many + 1, 1), 20);
    due("KEPT", x.session(1, 0, 0, 3), many);
    return x;
  }

  private static void twenty() {
    for (int kept : new int[] {10, 15, 18, 19, 20}) {
      for (int more : new int[] {0, 1, 2, 5, 6, 10}) {
        if (kept + more < 19 && more != 10) continue;
        Post x = withKept(818, kept);
        int l = 0, at = x.session(1, 0, 0, 1);
        while (x.session(0, 1, 0, 0) <= at + more) l = x.feedAndWrite(0, 1);
        if (kept + more <= 20) {
          due(kept + " and " + more, x.come(l, 1), 20);
          due("KEPT", x.session(1, 0, 0, 3), kept + more);
        } else {
          fault(kept + " and " + more, x, l, 1, 5);
          // With one KEPT key less there is room for one more.
          due("come of a KEPT one", x.come(0, 1), 20);
          if (kept + more == 21) due((kept - 1) + " and " + more, x.come(l, 1), 20);
          else fault((kept - 1) + " and " + more, x, l, 1, 5);
        }
      }
    }
  }

  private static void twentyTurning() {
    int[][] cases = {{19, 1, 0}, {19, 0, 1}, {19, 1, 1}, {20, 0, 0}, {20, 1, 0}, {20, 0, 1}, {14, 3, 3}, {14, 3, 4}, {14, 4, 3}};
    for (int[] c : cases) {
      Post x = withKept(819, c[0]);
      x.deliver(1, 0, 2);
      int nr = x.session(1, 0, 0, 1);
      int l = 0;
      for (int i = 0; i <= c[2]; i++) l = x.feedAndWrite(0, 1);
      x.overwrite(l, 11, nr + c[1], 2);
      x.retagTurning(l, x.inside(1, 0, 0, 0), secret(820, x.user(1, 5)));
      String what = c[0] + " KEPT, " + c[1] + " of the old chain, " + c[2] + " of the new one";
      if (c[0] + c[1] + c[2] <= 20) {
        due("come, " + what, x.come(l, 1), 20);
        due("KEPT, " + what, x.session(1, 0, 0, 3), c[0] + c[1] + c[2]);
      } else {
        fault(what, x, l, 1, 5);
      }
    }
  }

  /** All letters of a chain were opened, and the next chain was turned to: then p is not the other's any more. */
  private static void goneChain() {
    Post x = Post.registered(2, 824);
    for (int i = 0; i < 14; i++) x.deliver(0, 1, 1);
    for (int n : new int[] {0, 10, 11, 13}) fault("n = " + n + " of the chain that is there", x, n, 1, 6);
    x.deliver(1, 0, 1);
    x.deliver(0, 1, 1);
    for (int n = 0; n < 14; n++) fault("n = " + n + " of the chain before", x, n, 1, n <= 10 ? 4 : 5);
  }

  private static void highest() {
    for (int n : new int[] {12, 255, 256, 32767, 32768, 65534, 65535}) {
      Post x = Post.registered(2, 821);
      int l = x.send(0, 1, 1);
      x.overwrite(l, 33, n, 2);
      fault("n = " + n + " in a new one", x, l, 1, 5);
      x.overwrite(l, 33, 0, 2);
      due("come", x.come(l, 1), 1);
      int second = x.send(0, 1, 2);
      x.overwrite(second, 33, n, 2);
      fault("n = " + n + " in a chain that is there", x, second, 1, 5);
      x.deliver(1, 0, 1);
      int third = x.send(0, 1, 3);
      x.overwrite(third, 11, n, 2);
      fault("pn = " + n, x, third, 1, 5);
      x.overwrite(third, 13, n, 2);
      fault("pn = n = " + n, x, third, 1, 5);
      x.overwrite(third, 11, 0, 2);
      fault("n = " + n + " of a letter that turns", x, third, 1, 5);
      x.overwrite(third, 11, 2, 2);
      x.overwrite(third, 13, 0, 2);
      due("as it was", x.come(third, 1), 3);
    }
  }

  /** Who began has no RECEIVING chain before an answer comes, and the other's PUBLIC number is the LENT key's. */
  private static void noReceiving() {
    Post x = Post.registered(2, 822);
    x.deliver(0, 1, 1);
    int answer = x.send(1, 0, 2);
    long right = x.bytesOf(answer, 3, 8), lent = x.number(1, 1);
    due("RECEIVING", x.session(0, 1, 0, 7), 0);
    due("the other's", x.inside(0, 1, 0, 4), lent);
    x.overwrite(answer, 3, lent, 8);
    for (int n : new int[] {0, 1, 10}) {
      x.overwrite(answer, 13, n, 2);
      fault("p the other's, n = " + n, x, answer, 0, 4);
    }
    x.overwrite(answer, 13, 0, 2);
    // Not even with a TAG that would be right, if it turned.
    x.retagTurning(answer, x.inside(0, 1, 0, 0), secret(822, 5));
    fault("p the other's, with the TAG of a turn", x, answer, 0, 4);
    x.retag(answer, 0);
    fault("p the other's, with the TAG of a chain that is 0", x, answer, 0, 4);
    x.overwrite(answer, 3, right, 8);
    x.retagTurning(answer, x.inside(0, 1, 0, 0), secret(822, 5));
    due("p another one", x.come(answer, 0), 2);
    due("RECEIVING", x.session(0, 1, 0, 7), 1);
    // Behind that turn the LENT key's number is another one: it turns.
    int next = x.send(1, 0, 3);
    x.overwrite(next, 3, lent, 8);
    x.retagTurning(next, x.inside(0, 1, 0, 0), secret(822, x.user(0, 5)));
    due("the LENT key's number turns then", x.come(next, 0), 3);
    due("the other's", x.inside(0, 1, 0, 4), lent);
  }

  private static void nothingHas() {
    // A new SESSION with a ONCE key and KEPT keys.
    Post x = Post.registered(2, 823);
    x.publish(1, 1);
    for (int i = 0; i < 4; i++) x.send(0, 1, 1);
    wrongTag("a new SESSION", x, 3, 1);
    due("come", x.come(2, 1), 1);
    // A KEPT key, a chain that is there with and without keys to be KEPT.
    wrongTag("a KEPT key", x, 0, 1);
    wrongTag("a chain that is there", x, 3, 1);
    for (int i = 0; i < 3; i++) x.send(0, 1, 1);
    wrongTag("a chain that is there, with keys to be KEPT", x, 6, 1);
    // A letter that turns, with keys of both chains to be KEPT.
    for (int i = 0; i < 2; i++) x.send(1, 0, 1);
    wrongTag("an answer", x, 8, 0);
    due("come", x.come(8, 0), 1);
    for (int i = 0; i < 3; i++) x.send(0, 1, 1);
    wrongTag("a letter that turns", x, 11, 1);
    // The second SESSION of a row, and one of a full row that would be made.
    for (int i = 0; i < 4; i++) {
      x.begin(0, 1);
      x.send(0, 1, 1);
    }
    due("come", x.come(12, 1), 1);
    wrongTag("a letter for the second of a row", x, 11, 1);
    due("come", x.come(13, 1), 1);
    due("come", x.come(14, 1), 1);
    due("sessions", x.sessions(1, 0), 4);
    wrongTag("a new SESSION for a full row", x, 15, 1);
    due("come", x.come(15, 1), 1);
    // The oldest one was RETIRED.
    fault("the first SESSION is RETIRED", x, 11, 1, 4);
  }

  private static void wrongTag(String what, Post x, int letter, int u) {
    int size = x.letter(letter, -1);
    for (int place : new int[] {size - 1, size - 8, size - 9}) {
      x.spoil(letter, place, 128);
      fault(what, x, letter, u, 4);
      x.spoil(letter, place, 128);
    }
    due(what + ", as it was", x.twin().come(letter, u), 1);
  }
}
