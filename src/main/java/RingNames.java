import java.util.Arrays;

/** Sailors who sign in a ring so that none stands first, and what the ring still tells of who did. */
public final class RingNames {
    public static final int BAD = -1, STATE = -2, FULL = -3, NONE = -9;
    /** What none is, where a number may be below 0. */
    public static final int NO = -1000000;

    private static final int MOST_SAILORS = 7;
    private static final int MOST_SEATS = 8;
    private static final int MOST_LETTERS = 200;
    private static final int MOST_UNDONE = 10;
    private static final int MOST_ORDERS = 5040;
    private static final int LAST_HOUR = 99;
    private static final int WATCHES = 3;
    private static final int MOST_COURAGE = 7;
    private static final int MOST_TRUST = 127;
    private static final int MOST_DIP = 4;
    private static final int FIRST_DIP = 3;
    private static final int TENTHS = 10;
    private static final int FAULT_BASE = -10;

    private final Text text = new Text();
    private final Crew crew = new Crew();
    private final Crew told = new Crew();
    private final Moment present = new Moment();
    private final Past past = new Past();
    private final Moment image0 = new Moment();
    private final Moment image1 = new Moment();
    private int keptImages;
    private final Orders found = new Orders();
    private long steps;

    public RingNames() {
    }

    // ---- the crew

    public int type(int letter) {
        if (letter < 0 || letter > 255) {
            return BAD;
        }
        return text.append(letter) ? text.length : FULL;
    }

    public int clear() {
        int had = text.length;
        text.length = 0;
        return had;
    }

    public int crew() {
        int items = text.readInto(told);
        if (items < 0) {
            return items;
        }
        crew.become(told);
        text.length = 0;
        present.restart();
        past.forget();
        keptImages = 0;
        return items;
    }

    public int sailor(int s, int what) {
        if (!isSailor(s)) {
            return BAD;
        }
        switch (what) {
            case 0: return at(crew.watch, s);
            case 1: return at(crew.courage, s);
            case 2: return crew.trusted(s);
            case 3: return has(present.signed, s) ? 1 : 0;
            case 4: return present.seatOf(s);
            case 5: return wouldSign(s) ? 1 : 0;
            default: return BAD;
        }
    }

    public int seat(int k, int what) {
        if (!isSeat(k)) {
            return BAD;
        }
        switch (what) {
            case 0: return at(present.who, k);
            case 1: return at(present.ink, k);
            default: return BAD;
        }
    }

    public int now(int what) {
        switch (what) {
            case 0: return present.hour;
            case 1: return present.signed;
            case 2: return present.there();
            case 3: return thoseWhoWould();
            case 4: return past.size;
            default: return BAD;
        }
    }

    // ---- what is done

    public int signs(int s, int k) {
        if (!isSailor(s) || !isSeat(k)) {
            return BAD;
        }
        if (!wouldSign(s) || at(present.who, k) != NONE || present.hour >= LAST_HOUR) {
            return STATE;
        }
        past.remember(present);
        int ink = crew.inkBehind(Integer.bitCount(present.signed));
        present.write(k, s, ink);
        present.signed |= 1 << s;
        present.hour++;
        return ink;
    }

    public int hour() {
        if (present.hour >= LAST_HOUR) {
            return STATE;
        }
        past.remember(present);
        present.hour++;
        return present.hour;
    }

    public int scrape(int k) {
        if (!isSeat(k)) {
            return BAD;
        }
        int who = at(present.who, k);
        if (who == NONE) {
            return STATE;
        }
        past.remember(present);
        present.write(k, NONE, 0);
        return who;
    }

    public int undo() {
        return past.giveBack(present) ? past.size : STATE;
    }

    // ---- who will

    public int will() {
        return crew.signedInTheEnd(present.signed);
    }

    public int begin() {
        int all = crew.all();
        int others = all & ~present.signed;
        for (int size = 0; size <= MOST_SAILORS; size++) {
            for (int some = 0; some <= all; some++) {
                if ((some & ~others) == 0 && Integer.bitCount(some) == size
                        && crew.signedInTheEnd(present.signed | some) == all) {
                    return some;
                }
            }
        }
        return others;
    }

    // ---- orders

    public int orders() {
        found.find(crew, present, NONE);
        return found.size;
    }

    public int first() {
        found.find(crew, present, NONE);
        return found.firsts();
    }

    public int sure(int s) {
        if (!isThere(s)) {
            return BAD;
        }
        found.find(crew, present, NONE);
        return found.alwaysAheadOf(s);
    }

    public int chance(int s, int what) {
        if (!isThere(s) || !isPart(what)) {
            return BAD;
        }
        found.find(crew, present, NONE);
        return inLeastTerms(found.timesFirst(s), Math.max(found.size, 1), what);
    }

    public int ask() {
        found.find(crew, present, NONE);
        return found.fewestToAsk();
    }

    public int hang() {
        found.find(crew, present, NONE);
        return found.likeliestFirst();
    }

    public int shift(int what) {
        if (!isPart(what)) {
            return BAD;
        }
        int bestSeat = NONE;
        int most = NONE;
        for (int k = 0; k < MOST_SEATS; k++) {
            if (at(present.who, k) != NONE) {
                found.find(crew, present, k);
                int firsts = Integer.bitCount(found.firsts());
                if (firsts > most) {
                    most = firsts;
                    bestSeat = k;
                }
            }
        }
        return what == 0 ? bestSeat : most;
    }

    // ---- counts

    public int odds(int p, int k, int what) {
        if (p < 0 || p > TENTHS || k < 0 || k > MOST_SAILORS || !isPart(what)) {
            return BAD;
        }
        int silent = Integer.bitCount(crew.all() & ~present.signed);
        int upper = 0;
        for (int tell = 0; tell < 1 << silent; tell++) {
            int telling = Integer.bitCount(tell);
            if (telling <= k) {
                upper += power(p, telling) * power(TENTHS - p, silent - telling);
            }
        }
        return inLeastTerms(upper, power(TENTHS, silent), what);
    }

    public int bold(int c) {
        if (c < 0 || c > MOST_COURAGE) {
            return BAD;
        }
        int number = 0;
        for (int s = 0; s < crew.size; s++) {
            if (at(crew.courage, s) <= c) {
                number++;
            }
        }
        return number;
    }

    public int clique(int what) {
        if (!isPart(what)) {
            return BAD;
        }
        int best = crew.largestClique();
        return what == 0 ? Integer.bitCount(best) : best;
    }

    // ---- kinds, images

    public int rate(int kind, int s) {
        if (!isSailor(s)) {
            return NO;
        }
        switch (kind) {
            case 0: return asSailor(s);
            case 1: return asCook(s);
            case 2: return asMate(s);
            case 3: return asBosun(s);
            case 4: return asGunner(s);
            case 5: return asBoy(s);
            default: return NO;
        }
    }

    public int keep(int image) {
        if (!isPart(image)) {
            return BAD;
        }
        imageAt(image).become(present);
        keptImages |= 1 << image;
        return present.hour;
    }

    public int back(int image) {
        if (!isPart(image)) {
            return BAD;
        }
        if (!has(keptImages, image)) {
            return STATE;
        }
        present.become(imageAt(image));
        past.forget();
        return present.hour;
    }

    public int count(int what) {
        switch (what) {
            case 0: return crew.size;
            case 1: return crew.dip;
            case 2: return crew.seats;
            case 3: return text.length;
            default: return BAD;
        }
    }

    public long trace() {
        return steps;
    }

    // ---- what a number may be

    private boolean isSailor(int s) {
        return s >= 0 && s < crew.size;
    }

    private boolean isSeat(int k) {
        return k >= 0 && k < crew.seats;
    }

    private boolean isThere(int s) {
        return isSailor(s) && has(present.there(), s);
    }

    /** Of two things: the upper or the lower number, one image or the other. */
    private static boolean isPart(int what) {
        return what == 0 || what == 1;
    }

    // ---- who would

    private boolean wouldSign(int s) {
        return !has(present.signed, s) && !crew.isOnDeck(s, present.hour) && crew.dares(s, present.signed);
    }

    private int thoseWhoWould() {
        int bits = 0;
        for (int s = 0; s < crew.size; s++) {
            if (wouldSign(s)) {
                bits |= 1 << s;
            }
        }
        return bits;
    }

    private Moment imageAt(int image) {
        return image == 0 ? image0 : image1;
    }

    // ---- kinds: each asks the one above

    private int asSailor(int s) {
        steps += 1;
        return at(crew.courage, s);
    }

    private int asCook(int s) {
        steps += 10;
        return asSailor(s) + present.inkOf(s);
    }

    private int asMate(int s) {
        steps += 100;
        return asSailor(s) - Integer.bitCount(crew.trusted(s));
    }

    private int asBosun(int s) {
        steps += 1000;
        return 2 * asCook(s);
    }

    private int asGunner(int s) {
        steps += 10000;
        return asMate(s) + s;
    }

    private int asBoy(int s) {
        steps += 100000;
        return asSailor(s) + present.hour;
    }

    // ---- numbers and rows

    private static boolean has(int bits, int i) {
        return i >= 0 && i < 32 && (bits >>> i & 1) != 0;
    }

    private static int at(int[] row, int i) {
        return i >= 0 && i < row.length ? row[i] : 0;
    }

    private static void put(int[] row, int i, int value) {
        if (i >= 0 && i < row.length) {
            row[i] = value;
        }
    }

    private static int power(int base, int exponent) {
        int product = 1;
        for (int i = 0; i < exponent; i++) {
            product *= base;
        }
        return product;
    }

    private static int inLeastTerms(int upper, int lower, int what) {
        int divisor = commonDivisor(upper, lower);
        int part = what == 0 ? upper : lower;
        return divisor > 0 ? part / divisor : part;
    }

    private static int commonDivisor(int a, int b) {
        int larger = a;
        int smaller = b;
        // Euclid's steps on ints are fewer than 50.
        for (int step = 0; step < 100 && smaller > 0; step++) {
            int rest = larger % smaller;
            larger = smaller;
            smaller = rest;
        }
        return larger;
    }

    /** The letters that were told, and the reader of their tokens. */
    private static final class Text {
        private static final int END = -1;
        private static final int WRONG = -2;
        // A letter's token lies above every number's.
        private static final int LETTER = 128;
        private static final int MOST_NUMBER = 127;

        final int[] letters = new int[MOST_LETTERS];
        int length;
        int place;
        int tokenStart;
        boolean dipTold;
        boolean seatsTold;

        boolean append(int letter) {
            if (length >= MOST_LETTERS) {
                return false;
            }
            put(letters, length, letter);
            length++;
            return true;
        }

        /** How many items there are, or -10 less the fault: where the latest token begins. */
        int readInto(Crew anew) {
            anew.restart();
            place = 0;
            dipTold = false;
            seatsTold = false;
            for (int items = 0; items < MOST_LETTERS; items++) {
                boolean stands = false;
                switch (next()) {
                    case END: return items;
                    case LETTER + 's': stands = readSailor(anew); break;
                    case LETTER + 'd': stands = readDip(anew); break;
                    case LETTER + 'n': stands = readSeats(anew); break;
                    default: break;
                }
                if (!stands) {
                    break;
                }
            }
            return FAULT_BASE - tokenStart;
        }

        private boolean readSailor(Crew anew) {
            if (anew.size >= MOST_SAILORS) {
                return false;
            }
            int watch = numberFrom(0, WATCHES - 1);
            if (watch == WRONG) {
                return false;
            }
            int courage = numberFrom(0, MOST_COURAGE);
            if (courage == WRONG) {
                return false;
            }
            int trust = numberFrom(0, MOST_TRUST);
            if (trust == WRONG) {
                return false;
            }
            anew.enlist(watch, courage, trust);
            return itemEnds();
        }

        private boolean readDip(Crew anew) {
            if (dipTold) {
                return false;
            }
            dipTold = true;
            anew.dip = numberFrom(1, MOST_DIP);
            return anew.dip != WRONG && itemEnds();
        }

        private boolean readSeats(Crew anew) {
            if (seatsTold) {
                return false;
            }
            seatsTold = true;
            anew.seats = numberFrom(1, MOST_SEATS);
            return anew.seats != WRONG && itemEnds();
        }

        private boolean itemEnds() {
            return next() == LETTER + ';';
        }

        private int numberFrom(int least, int most) {
            int token = next();
            return token >= least && token <= most ? token : WRONG;
        }

        private int next() {
            while (place < length && at(letters, place) == ' ') {
                place++;
            }
            tokenStart = place;
            if (place >= length) {
                return END;
            }
            int letter = at(letters, place);
            if (isDigit(letter)) {
                return nextNumber();
            }
            place++;
            boolean known = letter == 's' || letter == 'd' || letter == 'n' || letter == ';';
            return known ? LETTER + letter : WRONG;
        }

        private int nextNumber() {
            boolean zeroAhead = at(letters, place) == '0';
            int value = 0;
            while (place < length && isDigit(at(letters, place))) {
                // Held just above what is allowed, so that long numbers don't wrap round.
                value = Math.min(value * 10 + at(letters, place) - '0', MOST_NUMBER + 1);
                place++;
            }
            boolean stands = value <= MOST_NUMBER && !(zeroAhead && place - tokenStart > 1);
            return stands ? value : WRONG;
        }

        private static boolean isDigit(int letter) {
            return letter >= '0' && letter <= '9';
        }
    }

    /** The sailors as they were told, their pen and the seats of their ring. */
    private static final class Crew {
        final int[] watch = new int[MOST_SAILORS];
        final int[] courage = new int[MOST_SAILORS];
        final int[] trust = new int[MOST_SAILORS];
        int size;
        int dip = FIRST_DIP;
        int seats = MOST_SEATS;

        void restart() {
            size = 0;
            dip = FIRST_DIP;
            seats = MOST_SEATS;
        }

        void enlist(int itsWatch, int itsCourage, int itsTrust) {
            put(watch, size, itsWatch);
            put(courage, size, itsCourage);
            put(trust, size, itsTrust);
            size++;
        }

        void become(Crew other) {
            restart();
            for (int s = 0; s < other.size; s++) {
                enlist(at(other.watch, s), at(other.courage, s), at(other.trust, s));
            }
            dip = other.dip;
            seats = other.seats;
        }

        int all() {
            return (1 << size) - 1;
        }

        int trusted(int s) {
            return at(trust, s) & all() & ~(1 << s);
        }

        boolean isOnDeck(int s, int hour) {
            return hour % WATCHES == at(watch, s);
        }

        /** Whether one would sign behind those who signed, but for the watch. */
        boolean dares(int s, int signed) {
            int needed = at(courage, s);
            return Integer.bitCount(signed) >= needed && (needed == 0 || (trusted(s) & signed) != 0);
        }

        int inkBehind(int ahead) {
            return dip > 0 ? dip - ahead % dip : 0;
        }

        int signedInTheEnd(int signed) {
            int bits = signed;
            // Each round but the last brings one more at least.
            for (int round = 0; round < MOST_SAILORS; round++) {
                for (int s = 0; s < size; s++) {
                    if (dares(s, bits)) {
                        bits |= 1 << s;
                    }
                }
            }
            return bits;
        }

        int largestClique() {
            int best = 0;
            for (int some = 0; some <= all(); some++) {
                if (Integer.bitCount(some) > Integer.bitCount(best) && isClique(some)) {
                    best = some;
                }
            }
            return best;
        }

        private boolean isClique(int some) {
            for (int s = 0; s < size; s++) {
                if (has(some, s) && (some & ~(1 << s) & ~trusted(s)) != 0) {
                    return false;
                }
            }
            return true;
        }
    }

    /** The hour, the ring and who signed. */
    private static final class Moment {
        final int[] who = new int[MOST_SEATS];
        final int[] ink = new int[MOST_SEATS];
        int hour;
        int signed;

        Moment() {
            Arrays.fill(who, NONE);
        }

        void restart() {
            Arrays.fill(who, NONE);
            Arrays.fill(ink, 0);
            hour = 0;
            signed = 0;
        }

        void become(Moment other) {
            for (int k = 0; k < MOST_SEATS; k++) {
                write(k, at(other.who, k), at(other.ink, k));
            }
            hour = other.hour;
            signed = other.signed;
        }

        void write(int k, int s, int itsInk) {
            put(who, k, s);
            put(ink, k, itsInk);
        }

        int there() {
            int bits = 0;
            for (int k = 0; k < MOST_SEATS; k++) {
                int s = at(who, k);
                if (s != NONE) {
                    bits |= 1 << s;
                }
            }
            return bits;
        }

        int seatOf(int s) {
            for (int k = 0; k < MOST_SEATS; k++) {
                if (at(who, k) == s) {
                    return k;
                }
            }
            return NONE;
        }

        int inkOf(int s) {
            int k = seatOf(s);
            return k == NONE ? 0 : at(ink, k);
        }
    }

    /** The moments ahead of what was done latest; the oldest give way. */
    private static final class Past {
        final Moment[] moments = new Moment[MOST_UNDONE];
        int next;
        int size;

        Past() {
            for (int i = 0; i < moments.length; i++) {
                moments[i] = new Moment();
            }
        }

        void remember(Moment moment) {
            Moment slot = slotAt(next);
            if (slot == null) {
                return;
            }
            slot.become(moment);
            next = next + 1 < MOST_UNDONE ? next + 1 : 0;
            size = Math.min(size + 1, MOST_UNDONE);
        }

        /** Whether there was one to give back. */
        boolean giveBack(Moment moment) {
            int latest = next > 0 ? next - 1 : MOST_UNDONE - 1;
            Moment slot = slotAt(latest);
            if (size <= 0 || slot == null) {
                return false;
            }
            moment.become(slot);
            next = latest;
            size--;
            return true;
        }

        void forget() {
            size = 0;
        }

        private Moment slotAt(int i) {
            return i >= 0 && i < moments.length ? moments[i] : null;
        }
    }

    /** All orders in which the names of a ring can have come. */
    private static final class Orders {
        // An order is one number: each sailor's place in it, and above these who is the first.
        private static final int PLACE_BITS = 3;
        private static final int PLACE = 7;
        private static final int FIRST_SHIFT = PLACE_BITS * MOST_SAILORS;
        // No sailor's number, so that it is in no bits of sailors.
        private static final int NOBODY = 7;

        final int[] list = new int[MOST_ORDERS];
        final int[] marks = new int[MOST_ORDERS];
        final int[] ink = new int[MOST_SAILORS];
        int size;
        int there;
        int hour;

        void find(Crew crew, Moment moment, int seatLeftOut) {
            size = 0;
            there = 0;
            hour = moment.hour;
            for (int k = 0; k < MOST_SEATS; k++) {
                int s = at(moment.who, k);
                if (s != NONE && k != seatLeftOut) {
                    there |= 1 << s;
                    put(ink, s, at(moment.ink, k));
                }
            }
            extend(this, crew, 0, 0, 0, NOBODY << FIRST_SHIFT);
        }

        /** Each signs in the earliest hour that he can: who comes later finds no fewer hours by it. */
        private static void extend(Orders all, Crew crew, int depth, int ahead, int hour, int order) {
            if (ahead == all.there) {
                all.add(order);
                return;
            }
            if (depth >= MOST_SAILORS) {
                return;
            }
            int due = crew.inkBehind(depth);
            for (int s = 0; s < MOST_SAILORS; s++) {
                if (has(all.there & ~ahead, s) && at(all.ink, s) == due && crew.dares(s, ahead)) {
                    int signing = crew.isOnDeck(s, hour) ? hour + 1 : hour;
                    int longer = depth == 0 ? s << FIRST_SHIFT : order | depth << PLACE_BITS * s;
                    if (signing < all.hour) {
                        extend(all, crew, depth + 1, ahead | 1 << s, signing + 1, longer);
                    }
                }
            }
        }

        private void add(int order) {
            if (size < MOST_ORDERS) {
                put(list, size, order);
                size++;
            }
        }

        private static int placeOf(int order, int s) {
            return order >>> PLACE_BITS * s & PLACE;
        }

        private static int firstOf(int order) {
            return order >>> FIRST_SHIFT;
        }

        int firsts() {
            int bits = 0;
            for (int i = 0; i < size; i++) {
                bits |= 1 << firstOf(at(list, i));
            }
            return bits & there;
        }

        int timesFirst(int s) {
            int times = 0;
            for (int i = 0; i < size; i++) {
                if (firstOf(at(list, i)) == s) {
                    times++;
                }
            }
            return times;
        }

        int likeliestFirst() {
            int best = NONE;
            int most = 0;
            for (int s = 0; s < MOST_SAILORS; s++) {
                int times = timesFirst(s);
                if (times > most) {
                    most = times;
                    best = s;
                }
            }
            return best;
        }

        int alwaysAheadOf(int s) {
            int bits = size > 0 ? there & ~(1 << s) : 0;
            for (int i = 0; i < size && bits != 0; i++) {
                bits &= aheadOf(at(list, i), s);
            }
            return bits;
        }

        private int aheadOf(int order, int s) {
            int place = placeOf(order, s);
            int bits = 0;
            for (int other = 0; other < MOST_SAILORS; other++) {
                if (has(there, other) && placeOf(order, other) < place) {
                    bits |= 1 << other;
                }
            }
            return bits;
        }

        int fewestToAsk() {
            if (size == 0) {
                return NONE;
            }
            Arrays.fill(marks, NONE);
            for (int asking = 0; asking <= MOST_SAILORS; asking++) {
                for (int asked = 0; asked <= there; asked++) {
                    if ((asked & ~there) == 0 && Integer.bitCount(asked) == asking && tellWhoWasFirst(asked)) {
                        return asked;
                    }
                }
            }
            return there;
        }

        /** Whether no two orders with the same places of those asked have different firsts. */
        private boolean tellWhoWasFirst(int asked) {
            for (int i = 0; i < size; i++) {
                int order = at(list, i);
                int first = firstOf(order);
                // The first one, if he is asked, says it himself.
                if (!has(asked, first)) {
                    int rank = rankOfPlaces(order, asked);
                    int other = at(marks, rank);
                    // Marks of others who were asked are of no account, and so need no wiping.
                    if (other >> PLACE_BITS == asked && (other & PLACE) != first) {
                        return false;
                    }
                    put(marks, rank, asked << PLACE_BITS | first);
                }
            }
            return true;
        }

        /** Numbers the ways to give those asked different places without a gap, so that the marks suffice. */
        private int rankOfPlaces(int order, int asked) {
            int free = Integer.bitCount(there);
            int taken = 0;
            int rank = 0;
            for (int s = 0; s < MOST_SAILORS; s++) {
                if (has(asked, s)) {
                    int place = placeOf(order, s);
                    rank = rank * free + place - Integer.bitCount(taken & (1 << place) - 1);
                    taken |= 1 << place;
                    free--;
                }
            }
            return rank;
        }
    }
}
