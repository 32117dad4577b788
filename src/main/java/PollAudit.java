/**
 * Audits that limit a risk: what was reported of an election is tested by ballots that are drawn,
 * in exact fractions, by polling or by comparing; where that does not confirm it, by a full count.
 */
public final class PollAudit {
    public static final int NONE = -1, BLANK = -2;

    private static final int SETTING = 0, DRAWING = 1, TO_BE_SEEN = 2, CONFIRMED = 3, FULL_COUNT = 4, COUNTED = 5;

    private static final int MOST_CANDIDATES = 8, MOST_VOTES = 1000000, MOST_WINNERS = 7, MOST_PAIRS = 16;
    private static final int MOST_BATCHES = 64, MOST_IN_BATCH = 4000, MOST_BALLOTS = 20000;
    private static final int MOST_CAP = 200, MOST_TERM = 1000000, MOST_DIGITS = 20;
    private static final int MOST_COINS = 4000, MOST_AT_ONCE = 32, MOST_COINS_A_DRAW = 15;
    private static final int MOST_RISK_DRAWS = 30, NEVER = MOST_RISK_DRAWS + 1, DIGEST_BYTES = 32;

    // A draw makes T at most 16 bits longer, and P 51: a cap of 200 draws keeps them in these many limbs.
    private static final int T_ROOM = 104, P_ROOM = 328;
    // The odds' parts stay below 20000 to the 30th; T takes at most 61 steps of 16 bits there.
    private static final int ODDS_ROOM = 40;
    private static final long LOW_32 = 0xffffffffL, LOW_16 = 0xffffL;

    private static final int[] SHA_START = {
        0x6a09e667, 0xbb67ae85, 0x3c6ef372, 0xa54ff53a, 0x510e527f, 0x9b05688c, 0x1f83d9ab, 0x5be0cd19};
    private static final int[] SHA_ROUNDS = {
        0x428a2f98, 0x71374491, 0xb5c0fbcf, 0xe9b5dba5, 0x3956c25b, 0x59f111f1, 0x923f82a4, 0xab1c5ed5,
        0xd807aa98, 0x12835b01, 0x243185be, 0x550c7dc3, 0x72be5d74, 0x80deb1fe, 0x9bdc06a7, 0xc19bf174,
        0xe49b69c1, 0xefbe4786, 0x0fc19dc6, 0x240ca1cc, 0x2de92c6f, 0x4a7484aa, 0x5cb0a9dc, 0x76f988da,
        0x983e5152, 0xa831c66d, 0xb00327c8, 0xbf597fc7, 0xc6e00bf3, 0xd5a79147, 0x06ca6351, 0x14292967,
        0x27b70a85, 0x2e1b2138, 0x4d2c6dfc, 0x53380d13, 0x650a7354, 0x766a0abb, 0x81c2c92e, 0x92722c85,
        0xa2bfe8a1, 0xa81a664b, 0xc24b8b70, 0xc76c51a3, 0xd192e819, 0xd6990624, 0xf40e3585, 0x106aa070,
        0x19a4c116, 0x1e376c08, 0x2748774c, 0x34b0bcb5, 0x391c0cb3, 0x4ed8aa4a, 0x5b9cca4f, 0x682e6ff3,
        0x748f82ee, 0x78a5636f, 0x84c87814, 0x8cc70208, 0x90befffa, 0xa4506ceb, 0xbef9a3f7, 0xc67178f2};

    private final Setup setup;
    private final CoinRow coinRow;
    private final Seed seed;
    private final DrawLog log;
    private final Tests tests;
    private final FullCount fullCount;
    private final Odds odds;
    private final Fraction shown;
    private int stage;
    private boolean byComparing;
    private boolean bySeed;

    public PollAudit() {
        setup = new Setup();
        coinRow = new CoinRow();
        seed = new Seed();
        log = new DrawLog();
        tests = new Tests();
        fullCount = new FullCount();
        odds = new Odds();
        shown = new Fraction(P_ROOM);
        stage = SETTING;
    }

    public int candidate(int votes)
            throws IllegalArgumentException, IllegalStateException, UnsupportedOperationException {
        needNumber(votes, 0, MOST_VOTES);
        needStage(SETTING);
        if (setup.candidates >= MOST_CANDIDATES) {
            throw new UnsupportedOperationException("no room for a candidate more");
        }
        return setup.addCandidate(votes);
    }

    public int batch(int size)
            throws IllegalArgumentException, IllegalStateException, UnsupportedOperationException {
        needNumber(size, 1, MOST_IN_BATCH);
        needStage(SETTING);
        if (setup.batches >= MOST_BATCHES || size > MOST_BALLOTS - setup.ballots) {
            throw new UnsupportedOperationException("no room for a batch more");
        }
        return setup.addBatch(size);
    }

    public int set(int what, int v)
            throws IndexOutOfBoundsException, IllegalArgumentException, IllegalStateException {
        needIndex(what, 2);
        needNumber(v, 1, what == 0 ? MOST_WINNERS : MOST_CAP);
        needStage(SETTING);
        int before;
        if (what == 0) {
            before = setup.winners;
            setup.winners = v;
        } else {
            before = setup.cap;
            setup.cap = v;
        }
        return before;
    }

    public void fraction(int what, int up, int low)
            throws IndexOutOfBoundsException, IllegalArgumentException, IllegalStateException {
        needIndex(what, 2);
        needNumber(up, 1, MOST_TERM);
        needNumber(low, 1, MOST_TERM);
        if (what == 0 ? up >= low : up <= low) {
            throw new IllegalArgumentException("the fraction is not on its side of 1");
        }
        needStage(SETTING);
        if (what == 0) {
            setup.limitUp = up;
            setup.limitLow = low;
        } else {
            setup.gammaUp = up;
            setup.gammaLow = low;
        }
    }

    public void record(int ballot, int many, int candidate) throws IndexOutOfBoundsException, IllegalStateException {
        needIndex(ballot, setup.ballots);
        if (many < 1 || many > setup.ballots - ballot) {
            throw new IndexOutOfBoundsException("no such last ballot");
        }
        needCandidateOrNone(candidate);
        needStage(SETTING);
        setup.readAs(ballot, many, candidate);
    }

    public int digit(int d)
            throws IllegalArgumentException, IllegalStateException, UnsupportedOperationException {
        needNumber(d, 0, 9);
        needStage(SETTING);
        if (seed.many >= MOST_DIGITS) {
            throw new UnsupportedOperationException("no room for a digit more");
        }
        return seed.addDigit(d);
    }

    public int coins(int bits, int n) throws IllegalArgumentException, UnsupportedOperationException {
        needNumber(n, 0, MOST_AT_ONCE);
        if (n > MOST_COINS - coinRow.many) {
            throw new UnsupportedOperationException("no room for so many coins");
        }
        return coinRow.addCoins(bits, n);
    }

    public void start(boolean comparing, boolean seeded) throws IllegalStateException {
        needStage(SETTING);
        if (!setup.isFit() || (seeded && seed.many == 0)) {
            throw new IllegalStateException("what is set does not do for an audit");
        }
        setup.markWinners();
        tests.begin(setup);
        byComparing = comparing;
        bySeed = seeded;
        stage = DRAWING;
    }

    public int draw() throws IllegalStateException {
        needStage(DRAWING);
        int ballot = bySeed ? seed.ballotOfDraw(log.draws + 1, setup.ballots) : coinDraw();
        if (ballot == NONE) {
            return NONE;
        }
        if (ballot == BLANK) {
            log.addBlank();
            countDraw(NONE);
            return BLANK;
        }
        int place = log.addDraw(ballot);
        if (log.seen(place) == BLANK) {
            stage = TO_BE_SEEN;
        } else {
            countDraw(place);
        }
        return ballot;
    }

    public int see(int candidate) throws IndexOutOfBoundsException, IllegalStateException {
        needCandidateOrNone(candidate);
        needStage(TO_BE_SEEN);
        countDraw(log.seeLast(candidate));
        return stage;
    }

    public int counted(int candidate, int votes)
            throws IndexOutOfBoundsException, IllegalArgumentException, IllegalStateException {
        needIndex(candidate, setup.candidates);
        needNumber(votes, 0, setup.ballots);
        needStage(FULL_COUNT);
        fullCount.tell(candidate, votes);
        if (fullCount.many >= setup.candidates) {
            fullCount.right = tests.agreeWith(fullCount);
            stage = COUNTED;
        }
        return fullCount.many;
    }

    public void again() {
        coinRow.empty();
        log.empty();
        fullCount.empty();
        tests.end();
        stage = SETTING;
    }

    public int told(int what) throws IndexOutOfBoundsException {
        needIndex(what, 13);
        boolean waits = stage == TO_BE_SEEN;
        switch (what) {
            case 0: return stage;
            case 1: return setup.candidates;
            case 2: return setup.batches;
            case 3: return setup.ballots;
            case 4: return log.draws;
            case 5: return waits ? log.different - 1 : log.different;
            case 6: return log.blanks;
            case 7: return coinRow.many;
            case 8: return tests.many;
            case 9: return tests.sure;
            case 10: return waits ? log.lastNew() : NONE;
            case 11: return setup.coinsADraw();
            default: return fullCount.right ? 1 : 0;
        }
    }

    public int of(int candidate, int what) throws IndexOutOfBoundsException {
        needIndex(candidate, setup.candidates);
        needIndex(what, 4);
        switch (what) {
            case 0: return setup.votes[candidate];
            case 1: return stage != SETTING && setup.wins[candidate] ? 1 : 0;
            case 2: return log.drawsFor[candidate];
            default: return fullCount.votesOf(candidate);
        }
    }

    public int pair(int k, int what) throws IndexOutOfBoundsException {
        needIndex(k, tests.many);
        needIndex(what, 3);
        Pair pair = tests.pairs[k];
        switch (what) {
            case 0: return pair.winner;
            case 1: return pair.loser;
            default: return pair.sureWith;
        }
    }

    public int ballot(int ballot, int what) throws IndexOutOfBoundsException {
        needIndex(ballot, setup.ballots);
        needIndex(what, 4);
        switch (what) {
            case 0: return setup.batchOf(ballot);
            case 1: return setup.readOf(ballot);
            case 2: return log.seen(log.placeOf(ballot));
            default: return log.times(log.placeOf(ballot));
        }
    }

    public int digest(int n, int i) throws IndexOutOfBoundsException, IllegalArgumentException {
        needIndex(i, DIGEST_BYTES);
        if (n < 1) {
            throw new IllegalArgumentException("draws have numbers from 1 on");
        }
        seed.hashWith(n);
        return seed.byteOfHash(i);
    }

    public int risk(int k, int n, int x, int y, int z)
            throws IllegalStateException, IndexOutOfBoundsException, IllegalArgumentException {
        needNotSetting();
        needIndex(k, tests.many);
        needNumber(n, 0, MOST_RISK_DRAWS);
        needNumber(z, 1, MOST_BALLOTS);
        needNumber(x, 0, z);
        needNumber(y, 0, z - x);
        odds.findLeast(tests.pairs[k], n, setup);
        odds.weigh(n, x, y, z);
        shown.becomeWhole(odds.total);
        for (int i = 0; i < n; i++) {
            shown.times(1, z);
        }
        return shown.compareWith(setup.limitUp, setup.limitLow) > 0 ? 1 : 0;
    }

    public boolean show(int what, int k) throws IndexOutOfBoundsException, IllegalStateException {
        needIndex(what, 5);
        if (what != 4) {
            needNotSetting();
        }
        if (what == 0 || what == 2) {
            needIndex(k, tests.many);
        }
        switch (what) {
            case 0: shown.becomeCopyOf(tests.pairs[k].t); break;
            case 1: shown.becomeCopyOf(tests.p); break;
            case 2: shown.become(tests.pairs[k].winnerVotes, tests.pairs[k].bothVotes()); break;
            case 3: shown.become(tests.leastMargin, setup.ballots); break;
            default: shown.become(setup.limitUp, setup.limitLow); break;
        }
        return shown.compareWith(1, 1) >= 0;
    }

    public int size(int part) throws IndexOutOfBoundsException {
        needIndex(part, 2);
        return shownPart(part).used;
    }

    public int limb(int part, int i) throws IndexOutOfBoundsException {
        needIndex(part, 2);
        Whole whole = shownPart(part);
        needIndex(i, whole.used);
        return whole.limbs[i];
    }

    private static void needIndex(int index, int many) {
        if (index < 0 || index >= many) {
            throw new IndexOutOfBoundsException("there is no such one");
        }
    }

    private static void needNumber(int number, int least, int most) {
        if (number < least || number > most) {
            throw new IllegalArgumentException("the number is out of its range");
        }
    }

    private void needCandidateOrNone(int candidate) {
        if (candidate != NONE) {
            needIndex(candidate, setup.candidates);
        }
    }

    private void needStage(int wanted) {
        if (stage != wanted) {
            throw new IllegalStateException("it is another stage");
        }
    }

    private void needNotSetting() {
        if (stage == SETTING) {
            throw new IllegalStateException("it is SETTING");
        }
    }

    private Whole shownPart(int part) {
        return part == 0 ? shown.above : shown.below;
    }

    private int coinDraw() {
        int need = setup.coinsADraw();
        if (coinRow.many < need) {
            return NONE;
        }
        int number = coinRow.take(need);
        return number < setup.ballots ? number : BLANK;
    }

    // A BLANK has no place: what is read and seen is then no candidate, so it moves no T, and its E is 0.
    private void countDraw(int place) {
        int seen = log.countFor(place);
        int read = place == NONE ? NONE : setup.readOf(log.ballotAt(place));
        boolean confirmed = byComparing ? tests.compare(setup, read, seen) : tests.poll(setup, seen, log.draws);
        if (confirmed) {
            stage = CONFIRMED;
        } else {
            stage = log.draws >= setup.cap ? FULL_COUNT : DRAWING;
        }
    }

    /** What is set before an audit, and stays when it begins again. */
    private static final class Setup {
        final int[] votes = new int[MOST_CANDIDATES];
        final boolean[] wins = new boolean[MOST_CANDIDATES];
        // The number behind the last ballot of each batch.
        final int[] ends = new int[MOST_BATCHES];
        // A record's candidate and 1 more, so that a new row is NONE all over.
        final byte[] records = new byte[MOST_BALLOTS];
        int candidates;
        int batches;
        int ballots;
        int winners = 1;
        int cap = 100;
        int limitUp = 1;
        int limitLow = 10;
        int gammaUp = 11;
        int gammaLow = 10;

        int addCandidate(int itsVotes) {
            votes[candidates] = itsVotes;
            candidates++;
            return candidates - 1;
        }

        int addBatch(int many) {
            int first = ballots;
            ballots += many;
            ends[batches] = ballots;
            batches++;
            return first;
        }

        void readAs(int first, int many, int candidate) {
            byte kept = (byte) (candidate + 1);
            for (int i = first; i < first + many; i++) {
                records[i] = kept;
            }
        }

        int readOf(int number) {
            return records[number] - 1;
        }

        int batchOf(int number) {
            int batch = 0;
            while (batch < batches - 1 && number >= ends[batch]) {
                batch++;
            }
            return batch;
        }

        int coinsADraw() {
            int coins = 0;
            while (coins < MOST_COINS_A_DRAW && (1 << coins) < ballots) {
                coins++;
            }
            return coins;
        }

        boolean isFit() {
            if (candidates < 2 || winners >= candidates || ballots < 1) {
                return false;
            }
            int high = 0;
            for (int c = 0; c < candidates; c++) {
                if (votes[c] > ballots) {
                    return false;
                }
                if (isAmongTheMost(c)) {
                    high++;
                }
            }
            // With a tie between the last winner and a loser, more of them are this high.
            return high == winners;
        }

        void markWinners() {
            for (int c = 0; c < candidates; c++) {
                wins[c] = isAmongTheMost(c);
            }
        }

        private boolean isAmongTheMost(int candidate) {
            int above = 0;
            for (int c = 0; c < candidates; c++) {
                if (votes[c] > votes[candidate]) {
                    above++;
                }
            }
            return above < winners;
        }
    }

    /** The coins that were not drawn: a ring, so that none of them has to move. */
    private static final class CoinRow {
        final byte[] ring = new byte[MOST_COINS];
        int first;
        int many;

        void empty() {
            first = 0;
            many = 0;
        }

        int addCoins(int bits, int n) {
            for (int i = n - 1; i >= 0; i--) {
                ring[(first + many) % MOST_COINS] = (byte) ((bits >>> i) & 1);
                many++;
            }
            return many;
        }

        int take(int n) {
            int number = 0;
            for (int i = 0; i < n; i++) {
                number = number * 2 + ring[first];
                first = (first + 1) % MOST_COINS;
            }
            many -= n;
            return number;
        }
    }

    /** The seed's digits, and SHA-256 of them with a draw's number. */
    private static final class Seed {
        final int[] digits = new int[MOST_DIGITS];
        final int[] words = new int[64];
        final int[] hash = new int[8];
        int many;

        int addDigit(int digit) {
            digits[many] = digit;
            many++;
            return many;
        }

        int ballotOfDraw(int draw, int ballots) {
            if (ballots < 1) {
                return NONE;
            }
            hashWith(draw);
            long rest = 0;
            for (int i = 0; i < hash.length; i++) {
                rest = ((rest << 32) | (hash[i] & LOW_32)) % ballots;
            }
            return (int) rest;
        }

        int byteOfHash(int i) {
            return (hash[i >> 2] >>> shiftOf(i)) & 255;
        }

        // Digits, a comma and a number are 31 bytes at most: one block holds them with its tail.
        void hashWith(int number) {
            for (int i = 0; i < 16; i++) {
                words[i] = 0;
            }
            int length = 0;
            for (int i = 0; i < many; i++) {
                length = putByte(length, '0' + digits[i]);
            }
            length = putByte(length, ',');
            for (int unit = 1000000000; unit > 0; unit /= 10) {
                if (number >= unit) {
                    length = putByte(length, '0' + number / unit % 10);
                }
            }
            putByte(length, 128);
            words[15] = 8 * length;
            spreadWords();
            mixWords();
        }

        private static int shiftOf(int position) {
            return 24 - 8 * (position & 3);
        }

        private int putByte(int position, int value) {
            words[position >> 2] |= value << shiftOf(position);
            return position + 1;
        }

        private static int turn(int word, int by) {
            return (word >>> by) | (word << (32 - by));
        }

        private void spreadWords() {
            for (int i = 16; i < 64; i++) {
                int near = words[i - 2];
                int far = words[i - 15];
                int s0 = turn(far, 7) ^ turn(far, 18) ^ (far >>> 3);
                int s1 = turn(near, 17) ^ turn(near, 19) ^ (near >>> 10);
                words[i] = words[i - 16] + s0 + words[i - 7] + s1;
            }
        }

        private void mixWords() {
            int a = SHA_START[0], b = SHA_START[1], c = SHA_START[2], d = SHA_START[3];
            int e = SHA_START[4], f = SHA_START[5], g = SHA_START[6], h = SHA_START[7];
            for (int i = 0; i < 64; i++) {
                int t1 = h + (turn(e, 6) ^ turn(e, 11) ^ turn(e, 25)) + ((e & f) ^ (~e & g)) + SHA_ROUNDS[i] + words[i];
                int t2 = (turn(a, 2) ^ turn(a, 13) ^ turn(a, 22)) + ((a & b) ^ (a & c) ^ (b & c));
                h = g;
                g = f;
                f = e;
                e = d + t1;
                d = c;
                c = b;
                b = a;
                a = t1 + t2;
            }
            hash[0] = SHA_START[0] + a;
            hash[1] = SHA_START[1] + b;
            hash[2] = SHA_START[2] + c;
            hash[3] = SHA_START[3] + d;
            hash[4] = SHA_START[4] + e;
            hash[5] = SHA_START[5] + f;
            hash[6] = SHA_START[6] + g;
            hash[7] = SHA_START[7] + h;
        }
    }

    /** What was drawn and seen. Each different ballot has a place; the cap keeps these few. */
    private static final class DrawLog {
        final int[] ballots = new int[MOST_CAP];
        // BLANK until the ballot is seen.
        final int[] seenAs = new int[MOST_CAP];
        final int[] timesDrawn = new int[MOST_CAP];
        final int[] drawsFor = new int[MOST_CANDIDATES];
        int different;
        int draws;
        int blanks;

        void empty() {
            different = 0;
            draws = 0;
            blanks = 0;
            for (int c = 0; c < MOST_CANDIDATES; c++) {
                drawsFor[c] = 0;
            }
        }

        void addBlank() {
            draws++;
            blanks++;
        }

        int addDraw(int ballot) {
            draws++;
            int place = placeOf(ballot);
            if (place == NONE && different < MOST_CAP) {
                place = different;
                ballots[place] = ballot;
                seenAs[place] = BLANK;
                timesDrawn[place] = 0;
                different++;
            }
            if (isPlace(place)) {
                timesDrawn[place]++;
            }
            return place;
        }

        int seeLast(int candidate) {
            int place = different - 1;
            if (isPlace(place)) {
                seenAs[place] = candidate;
            }
            return place;
        }

        int lastNew() {
            return different < 1 ? NONE : ballots[different - 1];
        }

        int countFor(int place) {
            int candidate = seen(place);
            if (candidate >= 0 && candidate < MOST_CANDIDATES) {
                drawsFor[candidate]++;
            }
            return candidate;
        }

        int placeOf(int ballot) {
            for (int place = 0; place < different; place++) {
                if (ballots[place] == ballot) {
                    return place;
                }
            }
            return NONE;
        }

        int ballotAt(int place) {
            return isPlace(place) ? ballots[place] : 0;
        }

        int seen(int place) {
            return isPlace(place) ? seenAs[place] : BLANK;
        }

        int times(int place) {
            return isPlace(place) ? timesDrawn[place] : 0;
        }

        private boolean isPlace(int place) {
            return place >= 0 && place < different;
        }
    }

    /** A full count, as it is told candidate by candidate. */
    private static final class FullCount {
        final int[] votes = new int[MOST_CANDIDATES];
        final boolean[] isTold = new boolean[MOST_CANDIDATES];
        int many;
        boolean right;

        void empty() {
            many = 0;
            right = false;
            for (int c = 0; c < MOST_CANDIDATES; c++) {
                isTold[c] = false;
            }
        }

        void tell(int candidate, int itsVotes) {
            if (!isTold[candidate]) {
                isTold[candidate] = true;
                many++;
            }
            votes[candidate] = itsVotes;
        }

        int votesOf(int candidate) {
            return isTold[candidate] ? votes[candidate] : NONE;
        }
    }

    /** A winner and a loser, and the T of polling them. */
    private static final class Pair {
        final Fraction t = new Fraction(T_ROOM);
        int winner;
        int loser;
        int winnerVotes;
        int loserVotes;
        int sureWith;

        void begin(int itsWinner, int itsLoser, int[] votes) {
            winner = itsWinner;
            loser = itsLoser;
            winnerVotes = votes[itsWinner];
            loserVotes = votes[itsLoser];
            sureWith = NONE;
            t.become(1, 1);
        }

        int bothVotes() {
            return winnerVotes + loserVotes;
        }

        int margin() {
            return winnerVotes - loserVotes;
        }

        void step(Fraction fraction, boolean forWinner) {
            fraction.times(2L * (forWinner ? winnerVotes : loserVotes), bothVotes());
        }

        // How much more the record says for the winner over the loser than was seen.
        int overstated(int read, int seen) {
            return lead(read) - lead(seen);
        }

        private int lead(int candidate) {
            if (candidate == winner) {
                return 1;
            }
            return candidate == loser ? -1 : 0;
        }
    }

    /** All pairs, with the fractions that polling and comparing make of the draws. */
    private static final class Tests {
        final Pair[] pairs = new Pair[MOST_PAIRS];
        final Fraction p = new Fraction(P_ROOM);
        int many;
        int sure;
        int leastMargin;

        Tests() {
            for (int k = 0; k < MOST_PAIRS; k++) {
                pairs[k] = new Pair();
            }
        }

        void end() {
            many = 0;
            sure = 0;
        }

        void begin(Setup setup) {
            end();
            leastMargin = setup.ballots;
            p.become(1, 1);
            for (int w = 0; w < setup.candidates; w++) {
                for (int l = 0; l < setup.candidates; l++) {
                    if (setup.wins[w] && !setup.wins[l] && many < MOST_PAIRS) {
                        pairs[many].begin(w, l, setup.votes);
                        leastMargin = Math.min(leastMargin, pairs[many].margin());
                        many++;
                    }
                }
            }
        }

        boolean poll(Setup setup, int seen, int draw) {
            for (int k = 0; k < many; k++) {
                Pair pair = pairs[k];
                if (seen != pair.winner && seen != pair.loser) {
                    continue;
                }
                pair.step(pair.t, seen == pair.winner);
                if (pair.sureWith == NONE && pair.t.compareWith(setup.limitLow, setup.limitUp) >= 0) {
                    pair.sureWith = draw;
                    sure++;
                }
            }
            return sure == many;
        }

        boolean compare(Setup setup, int read, int seen) {
            long twiceGamma = 2L * setup.gammaUp;
            long share = (long) setup.gammaLow * leastMargin;
            long all = twiceGamma * setup.ballots;
            p.times(all - share, all);
            Pair worst = mostOverstated(read, seen);
            long whole = twiceGamma * worst.margin();
            p.times(whole, whole - worst.overstated(read, seen) * share);
            return p.compareWith(setup.limitUp, setup.limitLow) <= 0;
        }

        private Pair mostOverstated(int read, int seen) {
            Pair worst = pairs[0];
            for (int k = 1; k < many; k++) {
                Pair pair = pairs[k];
                long ours = (long) pair.overstated(read, seen) * worst.margin();
                long theirs = (long) worst.overstated(read, seen) * pair.margin();
                if (ours > theirs) {
                    worst = pair;
                }
            }
            return worst;
        }

        boolean agreeWith(FullCount count) {
            for (int k = 0; k < many; k++) {
                if (count.votes[pairs[k].winner] <= count.votes[pairs[k].loser]) {
                    return false;
                }
            }
            return true;
        }
    }

    /**
     * The odds that a pair gets sure. Rows of draws for the winner or the loser alone are counted
     * first; draws of others, which move nothing, are then spread among them.
     */
    private static final class Odds {
        // With so many draws for the loser, how few for the winner make the pair sure.
        final int[] least = new int[MOST_RISK_DRAWS + 1];
        // Of the rows that are not sure yet, how many have so many draws for the winner.
        final int[] rows = new int[MOST_RISK_DRAWS + 1];
        final Fraction t = new Fraction(ODDS_ROOM);
        final Whole sure = new Whole(ODDS_ROOM);
        final Whole term = new Whole(ODDS_ROOM);
        final Whole total = new Whole(ODDS_ROOM);

        // A draw for each of the two makes T smaller, so a draw more for the loser
        // needs a draw more for the winner at least: the search never goes back.
        void findLeast(Pair pair, int n, Setup setup) {
            t.become(1, 1);
            int forWinner = 0;
            for (int forLoser = 0; forLoser <= n; forLoser++) {
                boolean isSure = t.compareWith(setup.limitLow, setup.limitUp) >= 0;
                while (!isSure && forWinner < n - forLoser) {
                    pair.step(t, true);
                    forWinner++;
                    isSure = t.compareWith(setup.limitLow, setup.limitUp) >= 0;
                }
                least[forLoser] = isSure ? forWinner : NEVER;
                pair.step(t, false);
            }
        }

        // Leaves in total the weight of all rows of n draws that get sure; all rows weigh z to the n.
        void weigh(int n, int x, int y, int z) {
            rows[0] = 1;
            sure.become(0);
            total.become(0);
            long spreads = 1;
            for (int m = 1; m <= n; m++) {
                sure.multiplyBy(x + y);
                growRows(m, x, y);
                spreads = spreads * (n - m + 1) / m;
                term.becomeCopyOf(sure);
                term.multiplyBy(spreads);
                multiplyTerm(z - x - y, n - m);
                total.add(term);
            }
        }

        // From rows of m - 1 draws to rows of m; those that get sure leave for their weight in sure.
        private void growRows(int m, int x, int y) {
            for (int forWinner = m; forWinner >= 0; forWinner--) {
                int many = forWinner < m ? rows[forWinner] : 0;
                if (forWinner > 0) {
                    many += rows[forWinner - 1];
                }
                if (forWinner >= least[m - forWinner]) {
                    term.become(many);
                    multiplyTerm(x, forWinner);
                    multiplyTerm(y, m - forWinner);
                    sure.add(term);
                    many = 0;
                }
                rows[forWinner] = many;
            }
        }

        private void multiplyTerm(int factor, int times) {
            for (int i = 0; i < times; i++) {
                term.multiplyBy(factor);
            }
        }
    }

    /** A fraction in lowest terms. */
    private static final class Fraction {
        final Whole above;
        final Whole below;

        Fraction(int room) {
            above = new Whole(room);
            below = new Whole(room);
            below.become(1);
        }

        void become(long up, long low) {
            above.become(1);
            below.become(1);
            times(up, low);
        }

        void becomeWhole(Whole whole) {
            above.becomeCopyOf(whole);
            below.become(1);
        }

        void becomeCopyOf(Fraction other) {
            above.becomeCopyOf(other.above);
            below.becomeCopyOf(other.below);
        }

        // What is common is divided out across before the parts are multiplied, where it is small.
        void times(long up, long low) {
            if (up < 1 || low < 1) {
                above.become(0);
                below.become(1);
                return;
            }
            long common = commonDivisor(up, low);
            long newUp = up / common;
            long newLow = low / common;
            long fromAbove = commonDivisor(newLow, above.remainderBy(newLow));
            long fromBelow = commonDivisor(newUp, below.remainderBy(newUp));
            above.divideBy(fromAbove);
            below.divideBy(fromBelow);
            above.multiplyBy(newUp / fromBelow);
            below.multiplyBy(newLow / fromAbove);
        }

        // Below 0, 0, above 0: less than up / low, the same, more.
        int compareWith(int up, int low) {
            return Whole.compareProducts(above, low, below, up);
        }

        // 1 or more when the first number is; Euclid needs fewer than 100 steps for any two longs.
        private static long commonDivisor(long first, long second) {
            long a = first;
            long b = second;
            for (int step = 0; step < 100 && b > 0; step++) {
                long rest = a % b;
                a = b;
                b = rest;
            }
            return a;
        }
    }

    /**
     * A whole number, 0 or more, in limbs of 32 bits, the lowest first, the highest not 0.
     * Factors and divisors are below 2 to the 46, so that one with half a limb fits a long.
     */
    private static final class Whole {
        final int[] limbs;
        int used;

        Whole(int room) {
            limbs = new int[room];
        }

        void become(long value) {
            used = 0;
            append(value);
        }

        void becomeCopyOf(Whole other) {
            used = Math.min(other.used, limbs.length);
            for (int i = 0; i < used; i++) {
                limbs[i] = other.limbs[i];
            }
        }

        void add(Whole other) {
            int most = Math.min(Math.max(used, other.used), limbs.length);
            long carry = 0;
            for (int i = 0; i < most; i++) {
                long sum = limbOrZero(i) + other.limbOrZero(i) + carry;
                limbs[i] = (int) sum;
                carry = sum >>> 32;
            }
            used = most;
            append(carry);
        }

        void multiplyBy(long factor) {
            if (factor < 1) {
                used = 0;
                return;
            }
            long carry = 0;
            for (int i = 0; i < used; i++) {
                long low = (limbs[i] & LOW_16) * factor + carry;
                long high = (limbs[i] >>> 16) * factor + (low >>> 16);
                limbs[i] = (int) ((high << 16) | (low & LOW_16));
                carry = high >>> 16;
            }
            append(carry);
        }

        void divideBy(long divisor) {
            if (divisor < 2) {
                return;
            }
            long rest = 0;
            for (int i = used - 1; i >= 0; i--) {
                long high = (rest << 16) | (limbs[i] >>> 16);
                long low = (high % divisor << 16) | (limbs[i] & LOW_16);
                limbs[i] = (int) ((high / divisor << 16) | (low / divisor));
                rest = low % divisor;
            }
            while (used > 0 && limbs[used - 1] == 0) {
                used--;
            }
        }

        long remainderBy(long divisor) {
            if (divisor < 2) {
                return 0;
            }
            long rest = 0;
            for (int i = used - 1; i >= 0; i--) {
                long high = ((rest << 16) | (limbs[i] >>> 16)) % divisor;
                rest = ((high << 16) | (limbs[i] & LOW_16)) % divisor;
            }
            return rest;
        }

        // The sign of left * leftTimes - right * rightTimes, limb by limb, with no room for the products.
        static int compareProducts(Whole left, int leftTimes, Whole right, int rightTimes) {
            int most = Math.max(left.used, right.used);
            boolean rest = false;
            long carry = 0;
            for (int i = 0; i < most; i++) {
                carry += left.limbOrZero(i) * leftTimes - right.limbOrZero(i) * rightTimes;
                rest = rest || (int) carry != 0;
                carry >>= 32;
            }
            if (carry == 0) {
                return rest ? 1 : 0;
            }
            return carry < 0 ? -1 : 1;
        }

        private long limbOrZero(int i) {
            return i < used ? limbs[i] & LOW_32 : 0;
        }

        private void append(long value) {
            long left = value;
            while (left != 0 && used < limbs.length) {
                limbs[used] = (int) left;
                used++;
                left >>>= 32;
            }
        }
    }
}
