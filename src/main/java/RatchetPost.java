/**
 * A post for people who trust nobody in between: keys ready at a directory, sessions whose
 * keys go on with each letter and are turned anew with each answer, letters that come in any
 * order, and a record of what one who looked into somebody's memory could read.
 */
public final class RatchetPost {
    public static final int BAD = -1, NONE = -2, FULL = -3;

    private static final int SEAL_WRONG = -10, FAULT_BASE = -10;
    private static final int LEAST_USERS = 2, MOST_USERS = 6;
    private static final int FEED_BYTES = 20, MOST_TEXT = 40;
    private static final int MOST_LETTERS = 80, MOST_OPENED = 400;
    private static final int MOST_BEGUN = 100, MOST_MADE = 100;
    private static final int MOST_ONCE_THERE = 12, MOST_ONCE_MADE = 60, MOST_LENT = 20;
    private static final int ROW_LENGTH = 4, MOST_KEPT = 20, MOST_KEPT_AT_ONCE = 10;

    private static final int NO_FAULT = 0, FAULT_BYTES = 1, FAULT_STRANGER = 2;
    private static final int FAULT_NO_SESSION = 3, FAULT_TAG = 4, FAULT_SKIPPED = 5;
    private static final int FAULT_USED = 6, FAULT_LENT = 7, FAULT_ONCE = 8;
    private static final int FAULT_BEGUN_BEFORE = 9, FAULT_FULL = 10;

    private static final int WITH_BEGINNING = 1, WITHOUT_BEGINNING = 2;
    private static final int ADDRESS_BYTES = 3, BEGINNING_BYTES = 20, HEAD_BYTES = 12;
    private static final int NUMBER_BYTES = 8, SHORT_BYTES = 2;

    private static final int KEY_ROOT = 1, KEY_CHAIN = 2, KEY_LETTER = 3;
    private static final int KEY_NEXT = 4, KEY_TEXT = 5, KEY_TAG = 6;

    private final Person[] people;
    private final Letter[] letters = new Letter[MOST_LETTERS];
    private int letterCount;
    private int copyCount;
    private int begunCount;
    private int madeCount;
    private int openedCount;
    private int lookCount;
    private final int[] tape = new int[MOST_TEXT];
    private int tapeSize;
    private final int[] reading = new int[MOST_TEXT];
    private int readingSize;
    // Every coming letter is taken apart and tried in these two, so that none needs its own.
    private final Envelope envelope = new Envelope();
    private final Opening opening = new Opening();
    private final Turn noTurn = new Turn(null, new Secret[0]);

    public RatchetPost(int n, int seed) {
        int users = Math.max(LEAST_USERS, Math.min(MOST_USERS, n));
        people = new Person[users];
        for (int u = 0; u < users; u++) {
            people[u] = new Person((long) seed + u, users);
        }
        // The first ROOTS come of nothing but COMMONS: what they follow is known to everybody.
        noTurn.giveRoot();
    }

    // ---- the tape

    public int feed(int a, int b, int c, int d, int e) {
        if (tapeSize + FEED_BYTES > MOST_TEXT) {
            return FULL;
        }
        putOnTape(a);
        putOnTape(b);
        putOnTape(c);
        putOnTape(d);
        putOnTape(e);
        return tapeSize;
    }

    private void putOnTape(int number) {
        for (int shift = 24; shift >= 0; shift -= 8) {
            if (tapeSize < MOST_TEXT) {
                tape[tapeSize] = number >>> shift & 255;
                tapeSize++;
            }
        }
    }

    public int end(int n) {
        if (n < 0 || n > FEED_BYTES || tapeSize < FEED_BYTES) {
            return BAD;
        }
        tapeSize = tapeSize - FEED_BYTES + n;
        return tapeSize;
    }

    // ---- users

    public int register(int u) {
        if (!isUser(u)) {
            return BAD;
        }
        if (people[u].isRegistered()) {
            return 0;
        }
        people[u].enrol();
        return 1;
    }

    public int publish(int u, int many) {
        if (!isUser(u) || many < 1 || many > MOST_ONCE_THERE) {
            return BAD;
        }
        Person person = people[u];
        if (!person.isRegistered()) {
            return NONE;
        }
        if (person.onceThere() + many > MOST_ONCE_THERE || person.onceMade + many > MOST_ONCE_MADE) {
            return FULL;
        }
        for (int i = 0; i < many; i++) {
            person.makeOnceKey();
        }
        return person.onceThere();
    }

    public int rotate(int u) {
        if (!isUser(u)) {
            return BAD;
        }
        Person person = people[u];
        if (!person.isRegistered()) {
            return NONE;
        }
        if (person.lentNumber >= MOST_LENT) {
            return FULL;
        }
        person.makeLentKey();
        return person.lentNumber;
    }

    public int write(int u, int v) {
        if (!arePair(u, v) || tapeSize == 0) {
            return BAD;
        }
        if (!people[u].isRegistered() || !people[v].isRegistered()) {
            return NONE;
        }
        if (letterCount >= MOST_LETTERS) {
            return FULL;
        }
        Row row = people[u].rows[v];
        if (row.size == 0) {
            int answer = beginSession(u, v);
            if (answer != 1) {
                return answer;
            }
        }
        Session first = row.at(0);
        if (first == null) {
            return BAD;
        }
        letters[letterCount] = writeIn(first, u, v);
        letterCount++;
        tapeSize = 0;
        return letterCount - 1;
    }

    public int begin(int u, int v) {
        if (!arePair(u, v)) {
            return BAD;
        }
        if (!people[u].isRegistered() || !people[v].isRegistered()) {
            return NONE;
        }
        return beginSession(u, v);
    }

    public int forget(int u, int v) {
        if (!arePair(u, v)) {
            return BAD;
        }
        return people[u].rows[v].retireAll();
    }

    public int come(int letter, int u) {
        if (!isLetter(letter) || !isUser(u)) {
            return BAD;
        }
        int fault = faultAtTheDoor(letters[letter], u);
        if (fault == NO_FAULT) {
            fault = envelope.begins
                    ? openWithBeginning(people[u])
                    : openWithoutBeginning(people[u]);
        }
        if (fault != NO_FAULT) {
            return FAULT_BASE - fault;
        }
        openedCount++;
        takeReading();
        return readingSize;
    }

    public int byteOf(int i) {
        if (i < 0 || i >= readingSize) {
            return BAD;
        }
        return reading[i];
    }

    public int copy(int letter) {
        if (!isLetter(letter)) {
            return BAD;
        }
        if (letterCount >= MOST_LETTERS) {
            return FULL;
        }
        letters[letterCount] = letters[letter].twin();
        letterCount++;
        copyCount++;
        return letterCount - 1;
    }

    public int spoil(int letter, int place, int mask) {
        if (!isLetter(letter) || mask < 1 || mask > 255) {
            return BAD;
        }
        int[] bytes = letters[letter].bytes;
        if (place < 0 || place >= bytes.length) {
            return BAD;
        }
        bytes[place] ^= mask;
        return bytes[place];
    }

    public int letter(int letter, int place) {
        if (!isLetter(letter)) {
            return BAD;
        }
        int[] bytes = letters[letter].bytes;
        if (place == -1) {
            return bytes.length;
        }
        if (place < 0 || place >= bytes.length) {
            return BAD;
        }
        return bytes[place];
    }

    public int forge(int u, long number) {
        if (!isUser(u) || !people[u].isRegistered() || !Numbers.isOpen(number)) {
            return BAD;
        }
        people[u].lentOpen = number;
        return 1;
    }

    // ---- what is told

    public int user(int u, int what) {
        if (!isUser(u)) {
            return BAD;
        }
        Person person = people[u];
        switch (what) {
            case 0:
                return oneIf(person.isRegistered());
            case 1:
                return person.lentNumber;
            case 2:
                return person.onceThere();
            case 3:
                return person.leastOnce();
            case 4:
                return person.onceMade;
            case 5:
                return person.drawn;
            case 6:
                return person.onceSecretsKept();
            case 7:
                return person.sessionsInAll();
            default:
                return BAD;
        }
    }

    public long number(int u, int what) {
        if (!isUser(u) || !people[u].isRegistered()) {
            return 0;
        }
        Person person = people[u];
        switch (what) {
            case 0:
                return person.identity.open;
            case 1:
                return person.lentOpen;
            case 2:
                return person.sealOpen;
            case 3:
                return person.sealProof;
            case 4:
                return openOf(person.onceKey(person.leastOnce()));
            default:
                return 0;
        }
    }

    public int session(int u, int v, int i, int what) {
        if (!arePair(u, v)) {
            return BAD;
        }
        if (i == -1 && what == 0) {
            return people[u].rows[v].size;
        }
        Session session = people[u].rows[v].at(i);
        if (session == null) {
            return BAD;
        }
        switch (what) {
            case 0:
                return session.ns;
            case 1:
                return session.nr;
            case 2:
                return session.pn;
            case 3:
                return session.kept.size;
            case 4:
                return oneIf(session.beginningGoes);
            case 5:
                return oneIf(session.begunHere);
            case 6:
                return oneIf(session.sendingTurn != null);
            case 7:
                return oneIf(session.receivingTurn != null);
            default:
                return BAD;
        }
    }

    public long inside(int u, int v, int i, int what) {
        Session session = arePair(u, v) ? people[u].rows[v].at(i) : null;
        if (session == null) {
            return 0;
        }
        switch (what) {
            case 0:
                return session.root;
            case 1:
                return session.sending;
            case 2:
                return session.receiving;
            case 3:
                return session.own.open;
            case 4:
                return session.other;
            default:
                return 0;
        }
    }

    public int same(int u, int v, int i, int j) {
        if (!arePair(u, v)) {
            return BAD;
        }
        Session one = people[u].rows[v].at(i);
        Session two = people[v].rows[u].at(j);
        if (one == null || two == null) {
            return BAD;
        }
        return oneIf(one.firstRoot == two.firstRoot);
    }

    public int look(int u) {
        if (!isUser(u)) {
            return BAD;
        }
        people[u].giveAway();
        lookCount++;
        return lookCount;
    }

    public int readable(int letter) {
        if (!isLetter(letter)) {
            return BAD;
        }
        Letter asked = letters[letter];
        return oneIf(asked.turn.givesKey(asked.place));
    }

    public int count(int what) {
        switch (what) {
            case 0:
                return letterCount;
            case 1:
                return copyCount;
            case 2:
                return lookCount;
            case 3:
                return readingSize;
            case 4:
                return tapeSize;
            default:
                return BAD;
        }
    }

    // ---- what the calls have in common

    private boolean isUser(int u) {
        return u >= 0 && u < people.length;
    }

    private boolean arePair(int u, int v) {
        return isUser(u) && isUser(v) && u != v;
    }

    private boolean isLetter(int number) {
        return number >= 0 && number < letterCount;
    }

    private static int oneIf(boolean holds) {
        return holds ? 1 : 0;
    }

    private static long openOf(Secret secret) {
        return secret == null ? 0 : secret.open;
    }

    private static long commonWith(Secret secret, long open) {
        return secret == null ? 0 : Numbers.power(open, secret.value);
    }

    /**
     * The SECRET of a PUBLIC number that stands in a letter or in the DIRECTORY; null, if nobody has
     * drawn it. It is asked when the number is used, before anything is drawn: a number that is
     * drawn later may have the same value, but came to be in another way.
     */
    private Secret secretOf(long open) {
        for (int u = 0; u < people.length; u++) {
            Secret found = people[u].drawnWith(open);
            if (found != null) {
                return found;
            }
        }
        return null;
    }

    // ---- beginning and writing

    private int beginSession(int u, int v) {
        if (begunCount >= MOST_BEGUN) {
            return FULL;
        }
        Person writer = people[u];
        Person other = people[v];
        int once = other.takeOnce();
        if (!other.sealIsRight()) {
            return SEAL_WRONG;
        }
        Secret onceKey = other.onceKey(once);
        Secret lentKey = secretOf(other.lentOpen);
        Secret fresh = writer.drawSecret();
        long root = Numbers.sum(
                Numbers.power(other.lentOpen, writer.identity.value),
                Numbers.power(other.identity.open, fresh.value),
                Numbers.power(other.lentOpen, fresh.value),
                Numbers.power(openOf(onceKey), fresh.value));
        Secret pair = writer.drawSecret();
        Turn first = noTurn.turnOf(firstPairs(
                writer.identity, other.identity, fresh, lentKey, onceKey));
        Session session = new Session(true, root, fresh.open, pair, first);
        session.beginningLent = other.lentNumber;
        session.beginningOnce = once;
        session.meet(other.lentOpen, lentKey);
        session.turnSending(pair);
        writer.rows[v].putFirst(session);
        begunCount++;
        return 1;
    }

    /** The pairs of SECRETS that A, B, C and, with a ONCE key, D are of. */
    private static Secret[] firstPairs(
            Secret writer, Secret other, Secret fresh, Secret lent, Secret once) {
        return once == null
                ? new Secret[] {writer, lent, fresh, other, fresh, lent}
                : new Secret[] {writer, lent, fresh, other, fresh, lent, fresh, once};
    }

    private Letter writeIn(Session session, int u, int v) {
        long key = Numbers.letterKey(session.sending);
        int size = ADDRESS_BYTES + (session.beginningGoes ? BEGINNING_BYTES : 0)
                + HEAD_BYTES + 1 + tapeSize + NUMBER_BYTES;
        Letter made = new Letter(size, session.sendingTurn, session.ns);
        made.put(session.beginningGoes ? WITH_BEGINNING : WITHOUT_BEGINNING, 1);
        made.put(u, 1);
        made.put(v, 1);
        if (session.beginningGoes) {
            made.put(people[u].identity.open, NUMBER_BYTES);
            made.put(session.beginningOpen, NUMBER_BYTES);
            made.put(session.beginningLent, SHORT_BYTES);
            made.put(session.beginningOnce, SHORT_BYTES);
        }
        made.put(session.own.open, NUMBER_BYTES);
        made.put(session.pn, SHORT_BYTES);
        made.put(session.ns, SHORT_BYTES);
        made.put(tapeSize, 1);
        for (int i = 0; i < tapeSize; i++) {
            made.put(tape[i] ^ Numbers.veil(key, i), 1);
        }
        made.put(Numbers.key(KEY_TAG, key, Numbers.sumOfBytes(made.bytes, made.filled)), NUMBER_BYTES);
        session.sending = Numbers.nextOf(session.sending);
        session.ns++;
        return made;
    }

    // ---- coming and opening

    private int faultAtTheDoor(Letter coming, int u) {
        if (!envelope.takeApart(coming.bytes) || !arePair(envelope.from, envelope.to)
                || envelope.to != u) {
            return FAULT_BYTES;
        }
        if (!people[u].isRegistered()) {
            return FAULT_STRANGER;
        }
        return openedCount >= MOST_OPENED ? FAULT_FULL : NO_FAULT;
    }

    private int openWithBeginning(Person person) {
        int at = person.rows[envelope.from].begunByOther(envelope.beginningOpen);
        return at >= 0 ? openIn(person, at) : openInNew(person);
    }

    private int openWithoutBeginning(Person person) {
        int many = person.rows[envelope.from].size;
        int firstFault = FAULT_NO_SESSION;
        for (int at = 0; at < many; at++) {
            int fault = openIn(person, at);
            if (fault == NO_FAULT) {
                return NO_FAULT;
            }
            if (at == 0) {
                firstFault = fault;
            }
        }
        return firstFault;
    }

    private int openIn(Person person, int at) {
        Row row = person.rows[envelope.from];
        Session session = row.at(at);
        if (session == null) {
            return FAULT_NO_SESSION;
        }
        int fault = opening.plan(session, envelope);
        if (fault == NO_FAULT) {
            opening.carryOut(session, envelope, person, secretOf(envelope.open));
            row.bringFirst(at);
        }
        return fault;
    }

    private int openInNew(Person person) {
        Secret lentKey = person.keptLentKey(envelope.lentNumber);
        if (lentKey == null) {
            return FAULT_LENT;
        }
        if (person.hasSeen(envelope.beginningOpen, envelope.lentNumber)) {
            return FAULT_BEGUN_BEFORE;
        }
        Secret onceKey = person.keptOnceKey(envelope.onceNumber);
        if (envelope.onceNumber != 0 && onceKey == null) {
            return FAULT_ONCE;
        }
        if (madeCount >= MOST_MADE) {
            return FAULT_FULL;
        }
        long root = Numbers.sum(
                Numbers.power(envelope.identity, lentKey.value),
                Numbers.power(envelope.beginningOpen, person.identity.value),
                Numbers.power(envelope.beginningOpen, lentKey.value),
                commonWith(onceKey, envelope.beginningOpen));
        Session session = new Session(false, root, envelope.beginningOpen, lentKey, noTurn);
        int fault = opening.plan(session, envelope);
        if (fault == NO_FAULT) {
            // Only now, so that a letter that is not right leaves no turn behind.
            session.rootTurn = noTurn.turnOf(firstPairs(secretOf(envelope.identity),
                    person.identity, secretOf(envelope.beginningOpen), lentKey, onceKey));
            opening.carryOut(session, envelope, person, secretOf(envelope.open));
            person.rows[envelope.from].putFirst(session);
            person.useOnce(envelope.onceNumber);
            person.remember(envelope.beginningOpen, envelope.lentNumber);
            madeCount++;
        }
        return fault;
    }

    private void takeReading() {
        readingSize = envelope.textLength;
        for (int i = 0; i < readingSize; i++) {
            reading[i] = envelope.textByte(i) ^ Numbers.veil(opening.key, i);
        }
    }

    /** The arithmetic of the document: powers modulo P, seals, MIX, SUM and KEY. */
    private static final class Numbers {
        private static final long P = (1L << 61) - 1, Q = P - 1;
        private static final long LOW_HALF = 0xFFFFFFFFL;
        private static final int BITS = 61;
        static final long BASE = 3;

        private Numbers() {
        }

        static boolean isOpen(long number) {
            return number >= 1 && number < P;
        }

        /** A product modulo P of two numbers below 2^61, in halves because it needs 122 bits. */
        static long times(long a, long b) {
            long aHigh = a >>> 32, aLow = a & LOW_HALF;
            long bHigh = b >>> 32, bLow = b & LOW_HALF;
            long middle = aHigh * bLow + aLow * bHigh;
            long low = aLow * bLow;
            // 2^61 is 1 modulo P: so 2^64 is 8, and what of the middle passes bit 61 comes back at bit 0.
            long sum = (aHigh * bHigh << 3) + (middle >>> 29) + ((middle & (1L << 29) - 1) << 32)
                    + (low & P) + (low >>> BITS);
            long folded = (sum & P) + (sum >>> BITS);
            return folded >= P ? folded - P : folded;
        }

        /** THE COMMON of a SECRET and a PUBLIC number: a base that is no PUBLIC number gives 0. */
        static long power(long base, long exponent) {
            if (!isOpen(base)) {
                return 0;
            }
            long result = 1;
            long square = base;
            for (int bit = 0; bit < BITS; bit++) {
                if ((exponent >>> bit & 1) == 1) {
                    result = times(result, square);
                }
                square = times(square, square);
            }
            return result;
        }

        /** A number without sign modulo another one (below 2^62). */
        static long rest(long number, long modulus) {
            if (modulus <= 0) {
                return 0;
            }
            long half = (number >>> 1) % modulus;
            return (half * 2 + (number & 1)) % modulus;
        }

        static long secretOf(long drawn) {
            return rest(drawn, Q - 1) + 1;
        }

        /** A product modulo Q, bit by bit: Q has no such handy form as P. */
        private static long timesModuloQ(long a, long b) {
            long result = 0;
            long doubled = a;
            for (int bit = 0; bit < BITS; bit++) {
                if ((b >>> bit & 1) == 1) {
                    result = (result + doubled) % Q;
                }
                doubled = doubled * 2 % Q;
            }
            return result;
        }

        private static long sealSum(long sealOpen, long message) {
            return rest(mix(mix(0, sealOpen), message), Q);
        }

        static long sealProof(Secret r, long message, long secret) {
            long e = sealSum(r.open, message);
            return (r.value + timesModuloQ(e, secret)) % Q;
        }

        static boolean sealIsRight(long sealOpen, long proof, long message, long open) {
            long e = sealSum(sealOpen, message);
            return power(BASE, proof) == times(sealOpen, power(open, e));
        }

        static long mix(long a, long b) {
            long h = (a ^ 0x5851F42D4C957F2DL) * 0x9E3779B97F4A7C15L;
            h = (h ^ h >>> 32) + b;
            h = h * 0xD6E8FEB86659FD93L;
            return h ^ h >>> 29;
        }

        static long sum(long a, long b, long c, long d) {
            return mix(mix(mix(mix(0, a), b), c), d);
        }

        static long sumOfBytes(int[] bytes, int many) {
            long sum = 0;
            for (int i = 0; i < many && i < bytes.length; i++) {
                sum = mix(sum, bytes[i]);
            }
            return sum;
        }

        static long key(int kind, long x, long y) {
            return mix(mix(kind, x), y);
        }

        static long letterKey(long chain) {
            return mix(mix(KEY_LETTER, chain), 0);
        }

        static long nextOf(long chain) {
            return mix(mix(KEY_NEXT, chain), 0);
        }

        static int veil(long letterKey, int place) {
            return (int) (key(KEY_TEXT, letterKey, place) & 255);
        }
    }

    /** A SECRET that somebody drew, with its PUBLIC number. */
    private static final class Secret {
        final long value;
        final long open;
        // What a user drew is a chain, the newest first.
        private final Secret drawnBefore;
        private boolean got;

        Secret(long value, long open, Secret drawnBefore) {
            this.value = value;
            this.open = open;
            this.drawnBefore = drawnBefore;
        }

        static void give(Secret secret) {
            if (secret != null) {
                secret.got = true;
            }
        }

        static boolean isGot(Secret secret) {
            return secret != null && secret.got;
        }
    }

    /**
     * How a ROOT and the chain beside it came to be, and what of them was got by LOOKS: of the
     * ROOT of the turn before and of COMMONS, which are told by their pairs of SECRETS (null: of a
     * number that nobody had drawn). (A first ROOT has no chain.) What came to be in one way is one
     * turn, whoever worked it out: so what is got at one side is known of the other side's too, as
     * far as both went the same way.
     */
    private static final class Turn {
        private static final int MOST_TURNS = 2000, NEVER = 1_000_000;

        private final Turn before;
        private final Secret[] pairs;
        // The turns that follow this one are a chain of sisters, the newest first.
        private Turn newestAfter;
        private Turn olderSister;
        private boolean rootGot;
        private int chainGotFrom = NEVER;
        private final boolean[] keyGot = new boolean[MOST_LETTERS];

        Turn(Turn before, Secret[] pairs) {
            this.before = before;
            this.pairs = pairs;
        }

        /** The turn that follows this one with these pairs; another one only if there was none such. */
        Turn turnOf(Secret[] pairsAfter) {
            for (Turn at = newestAfter; at != null; at = at.olderSister) {
                if (at.isOf(pairsAfter)) {
                    return at;
                }
            }
            Turn made = new Turn(this, pairsAfter);
            made.olderSister = newestAfter;
            newestAfter = made;
            return made;
        }

        /**
         * In a pair the order says nothing: each side has its own SECRET first. A number that nobody
         * had drawn came to be for itself: it is the same as no other one.
         */
        private boolean isOf(Secret[] others) {
            if (others.length != pairs.length) {
                return false;
            }
            for (int i = 0; i + 1 < pairs.length; i += 2) {
                boolean drawn = pairs[i] != null && pairs[i + 1] != null;
                boolean straight = pairs[i] == others[i] && pairs[i + 1] == others[i + 1];
                boolean crossed = pairs[i] == others[i + 1] && pairs[i + 1] == others[i];
                if (!drawn || !straight && !crossed) {
                    return false;
                }
            }
            return true;
        }

        void giveRoot() {
            rootGot = true;
        }

        void giveChain(int place) {
            chainGotFrom = Math.min(chainGotFrom, place);
        }

        void giveKey(int place) {
            if (place >= 0 && place < keyGot.length) {
                keyGot[place] = true;
            }
        }

        boolean givesKey(int place) {
            if (place >= chainGotFrom) {
                return true;
            }
            return place >= 0 && place < keyGot.length && keyGot[place] || isWorkedOut();
        }

        /** Goes back, over COMMONS that who LOOKED works out, to a ROOT that was got. */
        private boolean isWorkedOut() {
            Turn at = this;
            for (int i = 0; i < MOST_TURNS; i++) {
                if (at.before == null || !at.hasCommons()) {
                    return false;
                }
                at = at.before;
                if (at.rootGot) {
                    return true;
                }
            }
            return false;
        }

        /** Whether of each pair one SECRET was got. */
        private boolean hasCommons() {
            for (int i = 0; i + 1 < pairs.length; i += 2) {
                if (!Secret.isGot(pairs[i]) && !Secret.isGot(pairs[i + 1])) {
                    return false;
                }
            }
            return true;
        }
    }

    /** The KEPT keys of a session. */
    private static final class KeptKeys {
        private final long[] opens = new long[MOST_KEPT];
        private final int[] places = new int[MOST_KEPT];
        private final long[] keys = new long[MOST_KEPT];
        private final Turn[] turns = new Turn[MOST_KEPT];
        int size;

        int find(long open, int place) {
            for (int i = 0; i < size; i++) {
                if (opens[i] == open && places[i] == place) {
                    return i;
                }
            }
            return -1;
        }

        long keyAt(int i) {
            return i >= 0 && i < size ? keys[i] : 0;
        }

        void keep(long open, int place, long key, Turn turn) {
            if (size < MOST_KEPT) {
                opens[size] = open;
                places[size] = place;
                keys[size] = key;
                turns[size] = turn;
                size++;
            }
        }

        void drop(int i) {
            if (i >= 0 && i < size) {
                size--;
                // They stay in the order of their keeping: of two with one number and place the older is first.
                for (int at = i; at < size; at++) {
                    opens[at] = opens[at + 1];
                    places[at] = places[at + 1];
                    keys[at] = keys[at + 1];
                    turns[at] = turns[at + 1];
                }
                turns[size] = null;
            }
        }

        void giveAway() {
            for (int i = 0; i < size; i++) {
                if (turns[i] != null) {
                    turns[i].giveKey(places[i]);
                }
            }
        }
    }

    /** One side of a session. A chain is there when the turn that it came of is. */
    private static final class Session {
        final boolean begunHere;
        final long firstRoot;
        final long beginningOpen;
        int beginningLent;
        int beginningOnce;
        boolean beginningGoes;
        long root;
        Turn rootTurn;
        long sending;
        Turn sendingTurn;
        long receiving;
        Turn receivingTurn;
        Secret own;
        long other;
        private Secret otherSecret;
        boolean hasOther;
        int ns;
        int nr;
        int pn;
        final KeptKeys kept = new KeptKeys();

        Session(boolean begunHere, long root, long beginningOpen, Secret own, Turn rootTurn) {
            this.begunHere = begunHere;
            this.beginningGoes = begunHere;
            this.firstRoot = root;
            this.root = root;
            this.beginningOpen = beginningOpen;
            this.own = own;
            this.rootTurn = rootTurn;
        }

        /** With the SECRET that the other's PUBLIC number is of, or null if nobody has drawn it. */
        void meet(long open, Secret secret) {
            other = open;
            otherSecret = secret;
            hasOther = true;
        }

        void turnSending(Secret pair) {
            own = pair;
            long x = Numbers.power(other, own.value);
            sending = Numbers.key(KEY_CHAIN, root, x);
            root = Numbers.key(KEY_ROOT, root, x);
            rootTurn = rootTurn.turnOf(new Secret[] {own, otherSecret});
            sendingTurn = rootTurn;
        }

        /** The chain and the ROOT that it turned to are worked out before, without touching anything. */
        void turnReceiving(long open, Secret secret, long turnedRoot) {
            pn = ns;
            ns = 0;
            nr = 0;
            meet(open, secret);
            root = turnedRoot;
            rootTurn = rootTurn.turnOf(new Secret[] {own, otherSecret});
            receivingTurn = rootTurn;
        }

        void giveAway() {
            Secret.give(own);
            rootTurn.giveRoot();
            if (sendingTurn != null) {
                sendingTurn.giveChain(ns);
            }
            if (receivingTurn != null) {
                receivingTurn.giveChain(nr);
            }
            kept.giveAway();
        }
    }

    /** The sessions of a user with another one, the one that was used last first. */
    private static final class Row {
        private final Session[] sessions = new Session[ROW_LENGTH];
        int size;

        Session at(int i) {
            return i >= 0 && i < size ? sessions[i] : null;
        }

        void putFirst(Session session) {
            if (size < ROW_LENGTH) {
                size++;
            }
            shiftInto(size - 1);
            sessions[0] = session;
        }

        void bringFirst(int i) {
            if (i > 0 && i < size) {
                Session session = sessions[i];
                shiftInto(i);
                sessions[0] = session;
            }
        }

        private void shiftInto(int hole) {
            for (int i = hole; i > 0; i--) {
                sessions[i] = sessions[i - 1];
            }
        }

        int retireAll() {
            int many = size;
            for (int i = 0; i < many; i++) {
                sessions[i] = null;
            }
            size = 0;
            return many;
        }

        int begunByOther(long beginningOpen) {
            for (int i = 0; i < size; i++) {
                if (!sessions[i].begunHere && sessions[i].beginningOpen == beginningOpen) {
                    return i;
                }
            }
            return -1;
        }

        void giveAway() {
            for (int i = 0; i < size; i++) {
                sessions[i].giveAway();
            }
        }
    }

    /** A user: what it keeps itself, and what the DIRECTORY has of it. */
    private static final class Person {
        private final long seed;
        int drawn;
        private Secret drawnLast;
        Secret identity;
        int lentNumber;
        long lentOpen;
        long sealOpen;
        long sealProof;
        // Key number k stands at k; the gone ones stay, their SECRETS are handed out no more.
        private final Secret[] lentKeys = new Secret[MOST_LENT + 1];
        private final Secret[] onceKeys = new Secret[MOST_ONCE_MADE + 1];
        private final boolean[] onceUsed = new boolean[MOST_ONCE_MADE + 1];
        int onceMade;
        private int onceTaken;
        final Row[] rows;
        private final long[] seenOpens = new long[MOST_MADE];
        private final int[] seenLents = new int[MOST_MADE];
        private int seenCount;

        Person(long seed, int users) {
            this.seed = seed;
            rows = new Row[users];
            for (int v = 0; v < users; v++) {
                rows[v] = new Row();
            }
        }

        boolean isRegistered() {
            return identity != null;
        }

        Secret drawSecret() {
            drawn++;
            long value = Numbers.secretOf(Numbers.mix(seed, drawn));
            drawnLast = new Secret(value, Numbers.power(Numbers.BASE, value), drawnLast);
            return drawnLast;
        }

        Secret drawnWith(long open) {
            for (Secret at = drawnLast; at != null; at = at.drawnBefore) {
                if (at.open == open) {
                    return at;
                }
            }
            return null;
        }

        void enrol() {
            identity = drawSecret();
            makeLentKey();
        }

        void makeLentKey() {
            if (identity != null && lentNumber < MOST_LENT) {
                Secret made = drawSecret();
                Secret r = drawSecret();
                lentNumber++;
                lentKeys[lentNumber] = made;
                lentOpen = made.open;
                sealOpen = r.open;
                sealProof = Numbers.sealProof(r, made.open, identity.value);
            }
        }

        boolean sealIsRight() {
            return identity != null
                    && Numbers.sealIsRight(sealOpen, sealProof, lentOpen, identity.open);
        }

        Secret lentKey(int number) {
            return number >= 1 && number <= lentNumber ? lentKeys[number] : null;
        }

        Secret keptLentKey(int number) {
            return number >= lentNumber - 1 ? lentKey(number) : null;
        }

        void makeOnceKey() {
            if (onceMade < MOST_ONCE_MADE) {
                onceMade++;
                onceKeys[onceMade] = drawSecret();
            }
        }

        int onceThere() {
            return onceMade - onceTaken;
        }

        /** The number of the least ONCE key of the DIRECTORY; they go in the order of their making. */
        int leastOnce() {
            return onceTaken < onceMade ? onceTaken + 1 : 0;
        }

        int takeOnce() {
            int number = leastOnce();
            if (number != 0) {
                onceTaken = number;
            }
            return number;
        }

        Secret onceKey(int number) {
            return number >= 1 && number <= onceMade ? onceKeys[number] : null;
        }

        Secret keptOnceKey(int number) {
            return number >= 1 && number <= onceMade && !onceUsed[number] ? onceKeys[number] : null;
        }

        void useOnce(int number) {
            if (number >= 1 && number <= onceMade) {
                onceUsed[number] = true;
            }
        }

        int onceSecretsKept() {
            int many = 0;
            for (int number = 1; number <= onceMade; number++) {
                if (!onceUsed[number]) {
                    many++;
                }
            }
            return many;
        }

        int sessionsInAll() {
            int many = 0;
            for (int v = 0; v < rows.length; v++) {
                many += rows[v].size;
            }
            return many;
        }

        boolean hasSeen(long beginningOpen, int lent) {
            for (int i = 0; i < seenCount; i++) {
                if (seenOpens[i] == beginningOpen && seenLents[i] == lent) {
                    return true;
                }
            }
            return false;
        }

        void remember(long beginningOpen, int lent) {
            if (seenCount < MOST_MADE) {
                seenOpens[seenCount] = beginningOpen;
                seenLents[seenCount] = lent;
                seenCount++;
            }
        }

        void giveAway() {
            Secret.give(identity);
            for (int number = 1; number <= lentNumber; number++) {
                Secret.give(keptLentKey(number));
            }
            for (int number = 1; number <= onceMade; number++) {
                Secret.give(keptOnceKey(number));
            }
            for (int v = 0; v < rows.length; v++) {
                rows[v].giveAway();
            }
        }
    }

    /** A letter's bytes, and which key of which chain it was written with. */
    private static final class Letter {
        final int[] bytes;
        int filled;
        final Turn turn;
        final int place;

        Letter(int size, Turn turn, int place) {
            bytes = new int[Math.max(0, size)];
            this.turn = turn;
            this.place = place;
        }

        /** The highest byte first. */
        void put(long number, int many) {
            for (int i = many - 1; i >= 0; i--) {
                if (filled < bytes.length) {
                    bytes[filled] = (int) (number >>> 8 * i & 255);
                    filled++;
                }
            }
        }

        Letter twin() {
            Letter made = new Letter(bytes.length, turn, place);
            for (int i = 0; i < bytes.length; i++) {
                made.put(bytes[i], 1);
            }
            return made;
        }
    }

    /** A letter's bytes taken apart. */
    private static final class Envelope {
        private int[] bytes = new int[0];
        private int at;
        boolean begins;
        int from;
        int to;
        long identity;
        long beginningOpen;
        int lentNumber;
        int onceNumber;
        long open;
        int pn;
        int place;
        int textLength;
        private int textAt;
        private long sum;
        private long tag;

        /** Whether it is such a row of bytes; who the users are is not looked at. */
        boolean takeApart(int[] row) {
            bytes = row;
            at = 0;
            int kind = (int) take(1);
            begins = kind == WITH_BEGINNING;
            if (!begins && kind != WITHOUT_BEGINNING) {
                return false;
            }
            from = (int) take(1);
            to = (int) take(1);
            if (begins) {
                identity = take(NUMBER_BYTES);
                beginningOpen = take(NUMBER_BYTES);
                lentNumber = (int) take(SHORT_BYTES);
                onceNumber = (int) take(SHORT_BYTES);
            }
            open = take(NUMBER_BYTES);
            pn = (int) take(SHORT_BYTES);
            place = (int) take(SHORT_BYTES);
            textLength = (int) take(1);
            textAt = at;
            if (textLength < 1 || textLength > MOST_TEXT
                    || bytes.length != textAt + textLength + NUMBER_BYTES) {
                return false;
            }
            at = textAt + textLength;
            sum = Numbers.sumOfBytes(bytes, at);
            tag = take(NUMBER_BYTES);
            return true;
        }

        private long take(int many) {
            long number = 0;
            for (int i = 0; i < many; i++) {
                number = number << 8 | (at < bytes.length ? bytes[at] : 0);
                at++;
            }
            return number;
        }

        int textByte(int i) {
            int where = textAt + i;
            return where >= 0 && where < bytes.length ? bytes[where] : 0;
        }

        boolean hasTagOf(long key) {
            return tag == Numbers.key(KEY_TAG, key, sum);
        }
    }

    /**
     * OPENING a letter in a session: planned first without touching anything, because a letter
     * that is not right must leave nothing behind; carried out when its TAG is right.
     */
    private static final class Opening {
        private final long[] keys = new long[MOST_KEPT_AT_ONCE];
        private int keptAt;
        private boolean turns;
        private int oldCount;
        private int newCount;
        private long root;
        private long chain;
        long key;

        /** The fault, or none. */
        int plan(Session session, Envelope letter) {
            turns = false;
            keptAt = session.kept.find(letter.open, letter.place);
            if (keptAt >= 0) {
                key = session.kept.keyAt(keptAt);
            } else {
                int fault = countSteps(session, letter);
                if (fault != NO_FAULT) {
                    return fault;
                }
                chain = session.receiving;
                step(0, oldCount);
                if (turns) {
                    long x = Numbers.power(letter.open, session.own.value);
                    chain = Numbers.key(KEY_CHAIN, session.root, x);
                    root = Numbers.key(KEY_ROOT, session.root, x);
                }
                step(oldCount, newCount);
                key = Numbers.letterKey(chain);
                chain = Numbers.nextOf(chain);
            }
            return letter.hasTagOf(key) ? NO_FAULT : FAULT_TAG;
        }

        private int countSteps(Session session, Envelope letter) {
            turns = !session.hasOther || letter.open != session.other;
            if (!turns && session.receivingTurn == null) {
                return FAULT_TAG;
            }
            if (!turns && letter.place < session.nr) {
                return FAULT_USED;
            }
            oldCount = turns && session.receivingTurn != null
                    ? Math.max(0, letter.pn - session.nr) : 0;
            newCount = turns ? letter.place : letter.place - session.nr;
            int many = oldCount + newCount;
            if (many > MOST_KEPT_AT_ONCE || session.kept.size + many > MOST_KEPT) {
                return FAULT_SKIPPED;
            }
            return NO_FAULT;
        }

        private void step(int first, int many) {
            for (int i = first; i < first + many && i < keys.length; i++) {
                keys[i] = Numbers.letterKey(chain);
                chain = Numbers.nextOf(chain);
            }
        }

        void carryOut(Session session, Envelope letter, Person reader, Secret secretOfOpen) {
            session.beginningGoes = false;
            if (keptAt >= 0) {
                session.kept.drop(keptAt);
                return;
            }
            keep(session, 0, oldCount);
            if (turns) {
                session.turnReceiving(letter.open, secretOfOpen, root);
            }
            keep(session, oldCount, newCount);
            session.receiving = chain;
            session.nr = letter.place + 1;
            if (turns) {
                session.turnSending(reader.drawSecret());
            }
        }

        private void keep(Session session, int first, int many) {
            for (int i = 0; i < many && first + i < keys.length; i++) {
                session.kept.keep(session.other, session.nr + i, keys[first + i], session.receivingTurn);
            }
        }
    }
}
