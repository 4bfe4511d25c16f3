import java.util.Arrays;

/** A hiring fair at which lads bid years of service for the master they want. */
public final class LotsBid {
    public static final int BAD = -1, NO = -2, FULL = -3, NONE = -4;

    private static final int MOST_BYTES = 300;
    private static final int MOST_MASTERS = 3;
    private static final int MOST_ROOM = 3;
    private static final int MOST_LADS = 5;
    private static final int MOST_YEARS = 10;
    private static final int MOST_LIMIT = 10;
    private static final int MOST_WANT = 10;
    private static final int MOST_STEP = 3;
    private static final int MOST_SEEN = 6;
    private static final int MOST_UNDONE = 8;
    private static final int MOST_KEPT = 2;
    private static final int MOST_DRAW = 9999;

    private static final int PLAIN = 0, SICK = 1, PROUD = 2, EVEN = 3;
    private static final int LEAST_FOR_PROUD = 5;
    private static final int BELOW = 0, ABOVE = 1, SEALED = 2;

    // One row holds all that can be changed, undone and kept: a limit a lad, then these two.
    private static final int CALLS = MOST_LADS, STEP = MOST_LADS + 1, LAWS = MOST_LADS + 2;

    private static final int NOBODY = -1;
    private static final int SUM = -1;
    private static final int WITH_ALL = 32;

    private final Text text;
    private final Plan plan;
    private final Plan trial;
    private final Hiring hiring;
    private final Game game;
    private final Pairing pairing;
    private final Prices prices;
    private final Sightings sightings;
    private final Changes changes;
    private final Shelf shelf;

    public LotsBid() {
        text = new Text();
        plan = new Plan();
        trial = new Plan();
        hiring = new Hiring();
        game = new Game();
        pairing = new Pairing();
        prices = new Prices();
        sightings = new Sightings();
        changes = new Changes();
        shelf = new Shelf();
        plan.clear();
        plan.addMaster(1);
        plan.addLad(8, PLAIN);
        plan.addLad(5, PLAIN);
        plan.addWant(0, 0, 9);
        plan.addWant(1, 0, 6);
    }

    // ---- fairs

    public int write(int n, long v) {
        if (!isWithin(n, 1, 8)) {
            return BAD;
        }
        if (text.length + n > MOST_BYTES) {
            return FULL;
        }
        text.append(n, v);
        return text.length;
    }

    public int wipe() {
        int was = text.length;
        text.length = 0;
        return was;
    }

    public int fault() {
        return text.readInto(trial);
    }

    public int lay() {
        if (text.readInto(trial) != NONE || trial.masters == 0 || trial.lads == 0) {
            return NO;
        }
        plan.copyFrom(trial);
        sightings.many = 0;
        changes.many = 0;
        shelf.many = 0;
        return plan.lads;
    }

    public int lad(int i, int what) {
        if (!plan.hasLad(i) || !isWithin(what, 0, 4)) {
            return BAD;
        }
        if (what == 0) {
            return plan.law[i];
        }
        if (what == 1) {
            return plan.kind[i];
        }
        hiring.hold(plan, NOBODY);
        if (what == 2) {
            return hiring.got[i];
        }
        return what == 3 ? hiring.years[i] : hiring.gainOf(plan, i);
    }

    public int master(int m, int what) {
        if (!plan.hasMaster(m) || !isWithin(what, 0, 2)) {
            return BAD;
        }
        if (what == 0) {
            return plan.room[m];
        }
        hiring.hold(plan, NOBODY);
        return what == 1 ? hiring.ladsOf(plan, m) : hiring.mostYearsOf(plan, m);
    }

    public int wants(int i, int m, int what) {
        if (!plan.hasLad(i) || !plan.hasMaster(m) || !isWithin(what, 0, 1)) {
            return BAD;
        }
        return what == 0 ? plan.want[i][m] : plan.boundOf(i, m);
    }

    public int all(int what) {
        if (!isWithin(what, 0, 2)) {
            return BAD;
        }
        hiring.hold(plan, NOBODY);
        if (what == 0) {
            return hiring.yearsOfAll(plan);
        }
        return what == 1 ? hiring.gainsOfAll(plan) : hiring.ladsHired(plan);
    }

    // ---- changes

    public int limit(int i, int l) {
        if (!plan.hasLad(i) || !isWithin(l, 1, MOST_LIMIT)) {
            return BAD;
        }
        return change(i, l);
    }

    public int calls(int k) {
        if (!isWithin(k, BELOW, SEALED)) {
            return BAD;
        }
        return change(CALLS, k);
    }

    public int step(int s) {
        if (!isWithin(s, 1, MOST_STEP)) {
            return BAD;
        }
        return change(STEP, s);
    }

    public int undo() {
        if (changes.many == 0) {
            return NO;
        }
        changes.takeBack(plan);
        return changes.many;
    }

    // ---- lies, games

    public int lie(int i, int what) {
        if (!plan.hasLad(i) || !isWithin(what, 0, 1)) {
            return BAD;
        }
        trial.copyFrom(plan);
        int best = 1;
        int most = gainBySaying(i, best);
        for (int l = 2; l <= MOST_LIMIT; l++) {
            int gain = gainBySaying(i, l);
            if (gain > most) {
                most = gain;
                best = l;
            }
        }
        return what == 0 ? best : most - gainBySaying(i, plan.law[i]);
    }

    public int game(int i, int j, int what) {
        if (!plan.hasLad(i) || !plan.hasLad(j) || i == j || !isWithin(what, 0, 2)) {
            return BAD;
        }
        trial.copyFrom(plan);
        game.play(trial, hiring, i, j);
        game.findRests();
        if (what == 0) {
            return game.rests;
        }
        if (game.rests == 0) {
            return NONE;
        }
        return what == 1 ? game.limitOfOne : game.limitOfOther;
    }

    // ---- years at rest, joint

    public int rest(int m, boolean greatest) {
        if (m != SUM && !plan.hasMaster(m)) {
            return BAD;
        }
        pairing.search(plan, NOBODY);
        prices.search(plan, pairing.best, greatest);
        if (!prices.found) {
            return NONE;
        }
        return m == SUM ? prices.sum : prices.best[m];
    }

    public int joint(int i) {
        if (i != SUM && !plan.hasLad(i)) {
            return BAD;
        }
        pairing.search(plan, NOBODY);
        return i == SUM ? pairing.most : pairing.best[i];
    }

    public int pay(int i) {
        if (!plan.hasLad(i)) {
            return BAD;
        }
        pairing.search(plan, NOBODY);
        int ofOthers = pairing.most;
        if (pairing.best[i] != NONE) {
            ofOthers -= plan.want[i][pairing.best[i]];
        }
        pairing.search(plan, i);
        return pairing.most - ofOthers;
    }

    // ---- cousins, spans

    public int seen(int m, int p) {
        if (!plan.hasMaster(m) || !isWithin(p, 0, MOST_YEARS)) {
            return BAD;
        }
        if (sightings.many >= MOST_SEEN) {
            return FULL;
        }
        sightings.add(m, p);
        return sightings.many;
    }

    public int forget() {
        int were = sightings.many;
        sightings.many = 0;
        return were;
    }

    public int cousins() {
        int bits = 0;
        for (int i = 0; i < plan.lads; i++) {
            if (isAsSeenWithout(i)) {
                bits |= 1 << i;
            }
        }
        return isAsSeenWithout(NOBODY) ? bits | WITH_ALL : bits;
    }

    public int span(int i, int m, int what) {
        if (!plan.hasLad(i) || !plan.hasMaster(m) || !isWithin(what, 0, 1)) {
            return BAD;
        }
        trial.copyFrom(plan);
        trial.law[CALLS] = BELOW;
        hiring.hold(trial, NOBODY);
        return what == 0 ? hiring.spanFrom(trial, i, m) : hiring.spanTo(trial, i, m);
    }

    public int year(int z, int what) {
        if (!isWithin(z, 0, MOST_DRAW) || !isWithin(what, 0, 1)) {
            return BAD;
        }
        trial.copyFrom(plan);
        trial.drawWants(z);
        hiring.hold(trial, NOBODY);
        return what == 0 ? hiring.yearsOfAll(trial) : hiring.mastersAlone(trial);
    }

    public int keep() {
        if (shelf.many >= MOST_KEPT) {
            return FULL;
        }
        shelf.put(plan);
        return shelf.many;
    }

    public int back() {
        if (shelf.many == 0) {
            return NO;
        }
        shelf.takeInto(plan);
        changes.many = 0;
        return shelf.many;
    }

    public int count(int what) {
        switch (what) {
            case 0: return plan.masters;
            case 1: return plan.lads;
            case 2: return plan.law[CALLS];
            case 3: return plan.law[STEP];
            case 4: return sightings.many;
            case 5: return changes.many;
            case 6: return shelf.many;
            case 7: return text.length;
            default: return BAD;
        }
    }

    // ---- helpers

    private static boolean isWithin(int number, int least, int most) {
        return number >= least && number <= most;
    }

    private int change(int which, int value) {
        int was = plan.law[which];
        changes.note(which, was);
        plan.law[which] = value;
        return was;
    }

    private int gainBySaying(int i, int l) {
        trial.law[i] = l;
        hiring.hold(trial, NOBODY);
        return hiring.gainOf(trial, i);
    }

    private boolean isAsSeenWithout(int absent) {
        hiring.hold(plan, absent);
        return sightings.fit(plan, hiring);
    }

    /** Who is at the fair, and the laws it is held by. */
    private static final class Plan {
        int masters;
        int lads;
        final int[] room;
        final int[] kind;
        final int[][] want;
        final int[] law;

        Plan() {
            room = new int[MOST_MASTERS];
            kind = new int[MOST_LADS];
            want = new int[MOST_LADS][MOST_MASTERS];
            law = new int[LAWS];
        }

        void clear() {
            masters = 0;
            lads = 0;
            law[CALLS] = BELOW;
            law[STEP] = 1;
        }

        void copyFrom(Plan other) {
            masters = other.masters;
            lads = other.lads;
            System.arraycopy(other.room, 0, room, 0, MOST_MASTERS);
            System.arraycopy(other.kind, 0, kind, 0, MOST_LADS);
            System.arraycopy(other.law, 0, law, 0, LAWS);
            for (int i = 0; i < lads; i++) {
                System.arraycopy(other.want[i], 0, want[i], 0, MOST_MASTERS);
            }
        }

        boolean hasMaster(int m) {
            return m >= 0 && m < masters;
        }

        boolean hasLad(int i) {
            return i >= 0 && i < lads;
        }

        boolean addMaster(int c) {
            if (masters >= MOST_MASTERS || !isWithin(c, 1, MOST_ROOM)) {
                return false;
            }
            room[masters] = c;
            masters++;
            return true;
        }

        boolean addLad(int l, int k) {
            if (lads >= MOST_LADS || !isWithin(l, 1, MOST_LIMIT) || !isWithin(k, PLAIN, EVEN)) {
                return false;
            }
            law[lads] = l;
            kind[lads] = k;
            Arrays.fill(want[lads], 0);
            lads++;
            return true;
        }

        boolean addWant(int i, int m, int w) {
            if (!hasLad(i) || !hasMaster(m) || !isWithin(w, 0, MOST_WANT)) {
                return false;
            }
            want[i][m] = w;
            return true;
        }

        boolean tellCalls(int k) {
            if (!isWithin(k, BELOW, SEALED)) {
                return false;
            }
            law[CALLS] = k;
            return true;
        }

        boolean tellStep(int s) {
            if (!isWithin(s, 1, MOST_STEP)) {
                return false;
            }
            law[STEP] = s;
            return true;
        }

        /** The step, 1 at the least, so that every row of calls can be seen to end. */
        int stride() {
            return Math.max(1, law[STEP]);
        }

        int boundOf(int i, int m) {
            int plain = Math.min(want[i][m], law[i]);
            switch (kind[i]) {
                case SICK: return plain / 2;
                case PROUD: return want[i][m] >= LEAST_FOR_PROUD ? plain : 0;
                case EVEN: return plain - plain % 2;
                default: return plain;
            }
        }

        void drawWants(int z) {
            for (int i = 0; i < lads; i++) {
                for (int m = 0; m < masters; m++) {
                    // The square goes far beyond an int.
                    long x = 7919L * z + 6151L * i + 3571L * m + 1L;
                    want[i][m] = (int) (x * x % 65521L % 11L);
                }
            }
        }
    }

    /** The bytes that were written, and how they are read. */
    private static final class Text {
        int length;
        private final byte[] bytes;
        private final int[] number;

        Text() {
            bytes = new byte[MOST_BYTES];
            number = new int[3];
        }

        void append(int n, long v) {
            for (int k = n - 1; k >= 0 && length < MOST_BYTES; k--) {
                bytes[length] = (byte) (v >> (8 * k));
                length++;
            }
        }

        /** The place of the first fault, or NONE; the plan is of use only without one. */
        int readInto(Plan plan) {
            plan.clear();
            int at = 0;
            for (int items = 0; items < MOST_BYTES && at < length; items++) {
                int letter = bytes[at];
                int behind = readNumbers(at + 1, numbersOf(letter));
                if (behind == NONE || !tell(plan, letter)) {
                    return at;
                }
                at = behind;
            }
            return NONE;
        }

        private static int numbersOf(int letter) {
            switch (letter) {
                case 'm': return 1;
                case 'l': return 2;
                case 'w': return 3;
                case 'c': return 1;
                case 's': return 1;
                default: return 0;
            }
        }

        private boolean tell(Plan plan, int letter) {
            switch (letter) {
                case 'm': return plan.addMaster(number[0]);
                case 'l': return plan.addLad(number[0], number[1]);
                case 'w': return plan.addWant(number[0], number[1], number[2]);
                case 'c': return plan.tellCalls(number[0]);
                case 's': return plan.tellStep(number[0]);
                default: return false;
            }
        }

        /** The place behind so many numbers and their signs, or NONE if they are not there. */
        private int readNumbers(int at, int many) {
            int place = at;
            for (int k = 0; k < many; k++) {
                int figures = figuresAt(place);
                if (figures == 0) {
                    return NONE;
                }
                number[k] = numberAt(place, figures);
                place += figures;
                if (!isSignAt(place, k == many - 1 ? ';' : ',')) {
                    return NONE;
                }
                place++;
            }
            return place;
        }

        private int figuresAt(int place) {
            if (!isFigureAt(place)) {
                return 0;
            }
            return isFigureAt(place + 1) ? 2 : 1;
        }

        private int numberAt(int place, int figures) {
            int value = 0;
            for (int k = 0; k < figures; k++) {
                value = 10 * value + bytes[place + k] - '0';
            }
            return value;
        }

        private boolean isFigureAt(int place) {
            return place < length && bytes[place] >= '0' && bytes[place] <= '9';
        }

        private boolean isSignAt(int place, char sign) {
            return place < length && bytes[place] == sign;
        }
    }

    /** One fair as it was held: who has whom for how many years. */
    private static final class Hiring {
        final int[] got;
        final int[] years;
        private final int[] bound;
        private final int[] lastCall;

        Hiring() {
            got = new int[MOST_LADS];
            years = new int[MOST_LADS];
            bound = new int[MOST_LADS];
            lastCall = new int[MOST_MASTERS];
        }

        void hold(Plan plan, int absent) {
            Arrays.fill(got, NONE);
            Arrays.fill(years, 0);
            for (int m = 0; m < plan.masters; m++) {
                for (int i = 0; i < plan.lads; i++) {
                    // A bound of 0 is below every call, so who is away is in nowhere.
                    bound[i] = i == absent ? 0 : plan.boundOf(i, m);
                }
                if (plan.law[CALLS] == BELOW) {
                    callFromBelow(plan, m);
                } else {
                    // Sealed bids are served as by calls from above that pass no year over.
                    callFromAbove(plan, m, plan.law[CALLS] == ABOVE ? plan.stride() : 1);
                }
            }
        }

        private void callFromBelow(Plan plan, int m) {
            int step = plan.stride();
            int p = 1;
            while (p <= MOST_YEARS && howManyIn(plan, p) > plan.room[m]) {
                p += step;
            }
            lastCall[m] = p;
            int left = hire(plan, m, p, plan.room[m]);
            if (p > 1) {
                hire(plan, m, p - step, left);
            }
        }

        private void callFromAbove(Plan plan, int m, int step) {
            int left = plan.room[m];
            for (int p = MOST_YEARS; p >= 1 && left > 0; p -= step) {
                left = hire(plan, m, p, left);
            }
        }

        private boolean isIn(int i, int p) {
            return got[i] == NONE && bound[i] >= p;
        }

        private int howManyIn(Plan plan, int p) {
            int many = 0;
            for (int i = 0; i < plan.lads; i++) {
                if (isIn(i, p)) {
                    many++;
                }
            }
            return many;
        }

        /** The lowest of those in get the master as long as there is room: what is left of it. */
        private int hire(Plan plan, int m, int p, int room) {
            int left = room;
            for (int i = 0; i < plan.lads && left > 0; i++) {
                if (isIn(i, p)) {
                    got[i] = m;
                    years[i] = p;
                    left--;
                }
            }
            return left;
        }

        int gainOf(Plan plan, int i) {
            return got[i] == NONE ? 0 : plan.want[i][got[i]] - years[i];
        }

        int ladsOf(Plan plan, int m) {
            int bits = 0;
            for (int i = 0; i < plan.lads; i++) {
                if (got[i] == m) {
                    bits |= 1 << i;
                }
            }
            return bits;
        }

        int mostYearsOf(Plan plan, int m) {
            int most = 0;
            for (int i = 0; i < plan.lads; i++) {
                if (got[i] == m) {
                    most = Math.max(most, years[i]);
                }
            }
            return most;
        }

        int yearsOfAll(Plan plan) {
            int sum = 0;
            for (int i = 0; i < plan.lads; i++) {
                sum += years[i];
            }
            return sum;
        }

        int gainsOfAll(Plan plan) {
            int sum = 0;
            for (int i = 0; i < plan.lads; i++) {
                sum += gainOf(plan, i);
            }
            return sum;
        }

        int ladsHired(Plan plan) {
            int many = 0;
            for (int i = 0; i < plan.lads; i++) {
                if (got[i] != NONE) {
                    many++;
                }
            }
            return many;
        }

        int mastersAlone(Plan plan) {
            int many = 0;
            for (int m = 0; m < plan.masters; m++) {
                if (ladsOf(plan, m) == 0) {
                    many++;
                }
            }
            return many;
        }

        private boolean hadGotAnother(int i, int m) {
            return got[i] != NONE && got[i] < m;
        }

        /** The first call of the master that the lad did not answer; beyond the last one if none. */
        private int firstCallOut(Plan plan, int i, int m) {
            int mine = plan.boundOf(i, m);
            int p = 1;
            while (p <= lastCall[m] && p <= mine) {
                p += plan.stride();
            }
            return p;
        }

        int spanFrom(Plan plan, int i, int m) {
            if (hadGotAnother(i, m)) {
                return 0;
            }
            return Math.max(0, firstCallOut(plan, i, m) - plan.stride());
        }

        int spanTo(Plan plan, int i, int m) {
            if (hadGotAnother(i, m)) {
                return MOST_YEARS;
            }
            int out = firstCallOut(plan, i, m);
            return out > lastCall[m] ? MOST_YEARS : out - 1;
        }
    }

    /** What two lads gain by each two limits that they could say. */
    private static final class Game {
        int rests;
        int limitOfOne;
        int limitOfOther;
        private final int[][] gainOfOne;
        private final int[][] gainOfOther;

        Game() {
            gainOfOne = new int[MOST_LIMIT + 1][MOST_LIMIT + 1];
            gainOfOther = new int[MOST_LIMIT + 1][MOST_LIMIT + 1];
        }

        void play(Plan plan, Hiring hiring, int one, int other) {
            for (int a = 1; a <= MOST_LIMIT; a++) {
                plan.law[one] = a;
                for (int b = 1; b <= MOST_LIMIT; b++) {
                    plan.law[other] = b;
                    hiring.hold(plan, NOBODY);
                    gainOfOne[a][b] = hiring.gainOf(plan, one);
                    gainOfOther[a][b] = hiring.gainOf(plan, other);
                }
            }
        }

        void findRests() {
            rests = 0;
            for (int a = 1; a <= MOST_LIMIT; a++) {
                for (int b = 1; b <= MOST_LIMIT; b++) {
                    if (isRest(a, b)) {
                        noteRest(a, b);
                    }
                }
            }
        }

        private void noteRest(int a, int b) {
            if (rests == 0) {
                limitOfOne = a;
                limitOfOther = b;
            }
            rests++;
        }

        private boolean isRest(int a, int b) {
            for (int l = 1; l <= MOST_LIMIT; l++) {
                if (gainOfOne[l][b] > gainOfOne[a][b] || gainOfOther[a][l] > gainOfOther[a][b]) {
                    return false;
                }
            }
            return true;
        }
    }

    /** The way to have lads with masters by which most is wanted. */
    private static final class Pairing {
        int most;
        final int[] best;
        private final int[] way;
        private final int[] left;
        private final int[] hope;

        Pairing() {
            best = new int[MOST_LADS];
            way = new int[MOST_LADS];
            left = new int[MOST_MASTERS];
            hope = new int[MOST_LADS + 1];
        }

        void search(Plan plan, int absent) {
            System.arraycopy(plan.room, 0, left, 0, MOST_MASTERS);
            hope[plan.lads] = 0;
            for (int i = plan.lads - 1; i >= 0; i--) {
                hope[i] = hope[i + 1] + (i == absent ? 0 : mostWantOf(plan, i));
            }
            most = -1;
            place(this, plan, absent, 0, 0);
        }

        private static int mostWantOf(Plan plan, int i) {
            int top = 0;
            for (int m = 0; m < plan.masters; m++) {
                top = Math.max(top, plan.want[i][m]);
            }
            return top;
        }

        /** Tries all ways for the lads from i on, in their order; i is the depth, too. */
        private static void place(Pairing pairing, Plan plan, int absent, int i, int sum) {
            // Of several the first counts: what cannot become more than the best is left.
            if (i > MOST_LADS || sum + pairing.hope[i] <= pairing.most) {
                return;
            }
            if (i >= plan.lads) {
                pairing.most = sum;
                System.arraycopy(pairing.way, 0, pairing.best, 0, MOST_LADS);
                return;
            }
            for (int m = 0; m < plan.masters && i != absent; m++) {
                if (pairing.left[m] > 0) {
                    pairing.left[m]--;
                    pairing.way[i] = m;
                    place(pairing, plan, absent, i + 1, sum + plan.want[i][m]);
                    pairing.left[m]++;
                }
            }
            pairing.way[i] = NONE;
            place(pairing, plan, absent, i + 1, sum);
        }
    }

    /** Years a master at which nobody would rather have another. */
    private static final class Prices {
        boolean found;
        int sum;
        final int[] best;
        private final int[] asked;
        private final int[] held;

        Prices() {
            best = new int[MOST_MASTERS];
            asked = new int[MOST_MASTERS];
            held = new int[MOST_MASTERS];
        }

        /**
         * Tries all years with the one way given, which has to be the joint one: years that are at
         * rest with any way are so with every way by which most is wanted. For no way has more wanted
         * than the lads' best at these years and the years of all room together; the way at rest has
         * as much, so the joint one has, too, and that only if each lad has his best in it and no
         * room of more than 0 years is left.
         */
        void search(Plan plan, int[] way, boolean greatest) {
            found = false;
            countHeld(plan, way);
            int topOfSecond = plan.masters > 1 ? MOST_YEARS : 0;
            int topOfThird = plan.masters > 2 ? MOST_YEARS : 0;
            for (int a = 0; a <= MOST_YEARS; a++) {
                for (int b = 0; b <= topOfSecond; b++) {
                    for (int c = 0; c <= topOfThird; c++) {
                        asked[0] = a;
                        asked[1] = b;
                        asked[2] = c;
                        if (isBetter(a + b + c, greatest) && isAtRest(plan, way)) {
                            noteAsked(a + b + c);
                        }
                    }
                }
            }
        }

        private void countHeld(Plan plan, int[] way) {
            Arrays.fill(held, 0);
            for (int i = 0; i < plan.lads; i++) {
                if (way[i] != NONE) {
                    held[way[i]]++;
                }
            }
        }

        private boolean isBetter(int total, boolean greatest) {
            if (!found) {
                return true;
            }
            return greatest ? total > sum : total < sum;
        }

        private void noteAsked(int total) {
            found = true;
            sum = total;
            System.arraycopy(asked, 0, best, 0, MOST_MASTERS);
        }

        private boolean isAtRest(Plan plan, int[] way) {
            for (int m = 0; m < plan.masters; m++) {
                if (asked[m] > 0 && held[m] != plan.room[m]) {
                    return false;
                }
            }
            for (int i = 0; i < plan.lads; i++) {
                if (!isContent(plan, i, way[i])) {
                    return false;
                }
            }
            return true;
        }

        private boolean isContent(Plan plan, int i, int mine) {
            int has = mine == NONE ? 0 : plan.want[i][mine] - asked[mine];
            if (has < 0) {
                return false;
            }
            for (int m = 0; m < plan.masters; m++) {
                if (plan.want[i][m] - asked[m] > has) {
                    return false;
                }
            }
            return true;
        }
    }

    /** What was seen to be paid at the most, and for whom. */
    private static final class Sightings {
        int many;
        private final int[] master;
        private final int[] years;

        Sightings() {
            master = new int[MOST_SEEN];
            years = new int[MOST_SEEN];
        }

        void add(int m, int p) {
            master[many] = m;
            years[many] = p;
            many++;
        }

        boolean fit(Plan plan, Hiring hiring) {
            for (int k = 0; k < many; k++) {
                if (hiring.mostYearsOf(plan, master[k]) != years[k]) {
                    return false;
                }
            }
            return true;
        }
    }

    /** The latest changes, the oldest first: which law, and what it was. */
    private static final class Changes {
        int many;
        private final int[] which;
        private final int[] was;

        Changes() {
            which = new int[MOST_UNDONE];
            was = new int[MOST_UNDONE];
        }

        void note(int law, int value) {
            if (many >= MOST_UNDONE) {
                System.arraycopy(which, 1, which, 0, MOST_UNDONE - 1);
                System.arraycopy(was, 1, was, 0, MOST_UNDONE - 1);
                many = MOST_UNDONE - 1;
            }
            which[many] = law;
            was[many] = value;
            many++;
        }

        void takeBack(Plan plan) {
            many--;
            plan.law[which[many]] = was[many];
        }
    }

    /** The laws that are kept, the latest last. */
    private static final class Shelf {
        int many;
        private final int[][] laws;

        Shelf() {
            laws = new int[MOST_KEPT][LAWS];
        }

        void put(Plan plan) {
            System.arraycopy(plan.law, 0, laws[many], 0, LAWS);
            many++;
        }

        void takeInto(Plan plan) {
            many--;
            System.arraycopy(laws[many], 0, plan.law, 0, LAWS);
        }
    }
}
