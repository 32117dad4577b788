import java.math.BigInteger;
import java.nio.charset.StandardCharsets;
import java.security.MessageDigest;
import java.security.NoSuchAlgorithmException;
import java.util.function.Supplier;

/** Part 4 of the terms, and promises 18 to 22: digests, odds, and fractions in their numbers of 32 bits. */
final class ShownTest {
    private static final int LEAST = Integer.MIN_VALUE, MOST = Integer.MAX_VALUE;

    public static void main(String[] args) throws Exception {
        digestRange();
        digestBytes();
        digestStages();
        riskRange();
        riskOfNoDraws();
        riskAtTheEdges();
        riskAndTheLimit();
        riskOfALoserWithNoVotes();
        riskRowByRow();
        riskOfManyDraws();
        riskOfEachPair();
        riskStages();
        riskChangesNoAudit();
        showRange();
        showT();
        showP();
        showShare();
        showMargin();
        showLimit();
        showWhatPairDoesNotMatter();
        showStages();
        shownIsACopy();
        sizes();
        limbs();
        longestT();
        longestP();
        Check.end();
    }

    static byte[] digestOf(String text) throws NoSuchAlgorithmException {
        return MessageDigest.getInstance("SHA-256").digest(text.getBytes(StandardCharsets.US_ASCII));
    }

    private static void digestRange() throws Exception {
        PollAudit x = new PollAudit();
        x.digit(5);
        Check.about("18: IndexOutOfBoundsException (byte i, 0 .. 31)");
        for (int wrong : new int[] {-1, 32, LEAST, MOST}) {
            Check.none("digest(1, " + wrong + ")", () -> x.digest(1, wrong));
            Check.none("digest(0, " + wrong + ")", () -> x.digest(0, wrong));
        }
        Check.about("18: IllegalArgumentException: n is below 1");
        for (int wrong : new int[] {0, -1, LEAST}) {
            Check.bad("digest(" + wrong + ", 0)", () -> x.digest(wrong, 0));
        }
        byte[] first = digestOf("5,1");
        byte[] last = digestOf("5,2147483647");
        for (int i : new int[] {0, 31}) {
            Check.due("digest(1, " + i + ")", first[i] & 255, () -> x.digest(1, i));
            Check.due("digest(most, " + i + ")", last[i] & 255, () -> x.digest(MOST, i));
        }
    }

    private static void digestBytes() throws Exception {
        Check.about("18: the SHA-256 digest of the seed, a comma and n");
        String seed = "";
        for (int digits = 0; digits <= 20; digits++) {
            PollAudit x = new PollAudit();
            for (char digit : seed.toCharArray()) {
                x.digit(digit - '0');
            }
            for (int n : new int[] {1, 9, 10, 99, 100, 1020, 999999999, 1000000000, MOST}) {
                byte[] due = digestOf(seed + "," + n);
                for (int i = 0; i < 32; i += n == 1 || n == MOST ? 1 : 5) {
                    int at = i;
                    Check.due("digest of " + seed + "," + n, due[at] & 255, () -> x.digest(n, at));
                }
            }
            seed += digits * 7 % 10;
        }
    }

    private static void digestStages() throws Exception {
        Check.about("18: whatever the stage");
        int due = digestOf("7,12")[3] & 255;
        for (int stage = 0; stage < Scene.STAGES; stage++) {
            for (int kind = 0; kind < 4; kind++) {
                PollAudit x = Scene.at(stage, (kind & 1) != 0, (kind & 2) != 0);
                String before = Scene.read(x);
                Check.due("digest at stage " + stage, due, () -> x.digest(12, 3));
                Check.same("nothing is changed by it", before, Scene.read(x));
            }
        }
        Check.about("18: a digest changes no draw");
        PollAudit x = Scene.poll(17, 9, 5);
        x.digit(1);
        x.digit(2);
        x.start(false, true);
        x.digest(77, 0);
        Check.due("draw 1", 7, () -> x.draw());
        x.see(-1);
        x.digest(1, 0);
        Check.due("draw 2", 15, () -> x.draw());
    }

    /** Candidates with 3 and 1 votes, a limit of 1 / 3: T goes by 3 / 2 and by 1 / 2, to 3. */
    private static PollAudit third() {
        PollAudit x = Scene.small();
        x.fraction(0, 1, 3);
        x.start(false, false);
        return x;
    }

    private static void riskRange() {
        PollAudit x = third();
        x.risk(0, 3, 2, 1, 4);
        Check.about("19: IndexOutOfBoundsException, before what the numbers are");
        for (int wrong : new int[] {-1, 1, LEAST, MOST}) {
            Check.none("pair " + wrong, () -> x.risk(wrong, 3, 1, 1, 2));
            Check.none("pair " + wrong + ", 31 draws", () -> x.risk(wrong, 31, 1, 1, 2));
        }
        Check.about("19: IllegalArgumentException: n is not 0 .. 30");
        for (int wrong : new int[] {-1, 31, LEAST, MOST}) {
            Check.bad(wrong + " draws", () -> x.risk(0, wrong, 1, 1, 2));
        }
        Check.about("19: IllegalArgumentException: z not 1 .. 20000");
        for (int wrong : new int[] {0, -1, 20001, LEAST, MOST}) {
            Check.bad("of " + wrong, () -> x.risk(0, 3, 0, 0, wrong));
        }
        Check.about("19: IllegalArgumentException: x, y not 0 or more, together not above z");
        int[][] wrong = {{-1, 1}, {1, -1}, {-1, -1}, {3, -1}, {-1, 3}, {3, 0}, {0, 3}, {2, 1}, {1, 2}, {MOST, MOST},
            {MOST, 1}, {1, MOST}, {LEAST, LEAST}, {LEAST, 0}, {0, LEAST}, {MOST, LEAST}};
        for (int[] w : wrong) {
            Check.bad("by " + w[0] + ", " + w[1] + " of 2", () -> x.risk(0, 3, w[0], w[1], 2));
        }
        Scene.isShown("what was shown stays", x, 1, 8);
    }

    private static void riskOfNoDraws() {
        Check.about("19: n 0: no row of draws comes to q / p");
        PollAudit x = third();
        x.show(2, 0);
        Check.due("no draws", 0, () -> x.risk(0, 0, 1, 0, 1));
        Scene.isShown("no draws", x, 0, 1);
        Check.due("size of 0 above", 0, () -> x.size(0));
        Check.due("size of 1 below", 1, () -> x.size(1));
    }

    private static void riskAtTheEdges() {
        PollAudit x = third();
        Check.about("Terms: with which T comes to q / p at some time: with n draws, and not with fewer");
        odds(x, 0, 2, 5, 0, 5, 0, 1);
        odds(x, 1, 3, 5, 0, 5, 1, 1);
        Check.about("19: z 1");
        odds(x, 1, 30, 1, 0, 1, 1, 1);
        odds(x, 0, 30, 0, 1, 1, 0, 1);
        odds(x, 0, 30, 0, 0, 1, 0, 1);
        Check.about("19: z 20000");
        odds(x, 1, 30, 20000, 0, 20000, 1, 1);
        odds(x, 0, 30, 0, 20000, 20000, 0, 1);
        odds(x, 0, 30, 0, 0, 20000, 0, 1);
        odds(x, 0, 3, 1, 0, 20000, 1, 8000000000000L);
        Check.about("19: x and y together z");
        odds(x, 0, 3, 1, 1, 2, 1, 8);
        odds(x, 1, 3, 3, 1, 4, 27, 64);
        Check.about("19: and else another one");
        odds(x, 0, 3, 2, 1, 4, 1, 8);
        odds(x, 0, 10, 1, 3, 5, 174842, 9765625);
        Check.about("19: SHOWN in lowest terms");
        odds(x, 0, 3, 200, 100, 400, 1, 8);
        odds(x, 1, 4, 6, 0, 8, 189, 256);
    }

    private static void odds(PollAudit x, int above, int n, int a, int b, int z, long up, long low) {
        String name = "risk of " + n + " draws by " + a + ", " + b + " of " + z;
        Check.due(name, above, () -> x.risk(0, n, a, b, z));
        Scene.isShown(name, x, up, low);
    }

    private static void riskAndTheLimit() {
        Check.about("19: 0 if they are not above THE LIMIT, else 1");
        PollAudit x = Scene.poll(5, 5, 0);
        x.fraction(0, 3, 5);
        x.start(false, false);
        // One draw for the winner makes 2, which is 5 / 3 or more.
        odds(x, 0, 1, 3, 1, 5, 3, 5);
        odds(x, 0, 1, 12000, 0, 20000, 3, 5);
        odds(x, 1, 1, 12001, 0, 20000, 12001, 20000);
        odds(x, 0, 1, 11999, 0, 20000, 11999, 20000);
        PollAudit y = Scene.poll(5, 5, 0);
        y.fraction(0, 1, 4);
        y.start(false, false);
        odds(y, 0, 2, 1, 1, 2, 1, 4);
        Check.about("Terms: T comes to q / p: just to it, and just not");
        PollAudit z = Scene.poll(5, 5, 0);
        z.fraction(0, 249999, 1000000);
        z.start(false, false);
        odds(z, 0, 2, 1, 1, 2, 0, 1);
        odds(z, 1, 3, 1, 0, 1, 1, 1);
    }

    private static void riskOfALoserWithNoVotes() {
        Check.about("Terms: T is 0 for ever behind a draw for a loser with no votes");
        PollAudit x = Scene.poll(5, 3, 0);
        x.fraction(0, 1, 4);
        x.start(false, false);
        odds(x, 0, 30, 1, 1, 2, 1, 4);
        Check.about("Terms: at some time: it need not stay so");
        odds(x, 1, 3, 2, 1, 3, 4, 9);
    }

    private static void riskRowByRow() {
        Check.about("Terms: the sum over all rows of n draws");
        int[][] polls = {{3, 1, 1, 3}, {5, 4, 2, 3}, {5, 0, 1, 9}, {4, 3, 7, 10}, {5, 2, 99, 100}, {5, 4, 4, 5}};
        for (int[] poll : polls) {
            PollAudit x = Scene.poll(5, poll[1], poll[0]);
            x.fraction(0, poll[2], poll[3]);
            x.start(false, false);
            for (int n = 0; n <= 8; n++) {
                long sum = rows(poll, n, new long[] {3, 2, 1}, 1, 1);
                int draws = n;
                long all = Math.round(Math.pow(6, n));
                Check.due("odds", sum * poll[3] > all * poll[2] ? 1 : 0, () -> x.risk(0, draws, 3, 2, 6));
                Scene.isShown("odds of " + n, x, sum, all);
            }
        }
    }

    private static long rows(int[] poll, int n, long[] weights, long up, long low) {
        if (up * poll[2] >= low * poll[3]) {
            return Math.round(Math.pow(6, n));
        }
        if (n == 0) {
            return 0;
        }
        long both = poll[0] + poll[1];
        return weights[0] * rows(poll, n - 1, weights, up * 2 * poll[0], low * both)
            + weights[1] * rows(poll, n - 1, weights, up * 2 * poll[1], low * both)
            + weights[2] * rows(poll, n - 1, weights, up, low);
    }

    private static void riskOfManyDraws() {
        Check.about("19: n up to 30, z up to 20000, against the model");
        int[][] votes = {{20000, 19999}, {20000, 1}, {3, 2}, {20000, 0}, {10007, 9973}};
        int[][] limits = {{999999, 1000000}, {1, 1000000}, {1, 20}, {9, 10}};
        int[][] shares = {{10001, 9999, 20000}, {19999, 1, 20000}, {6661, 6659, 19997}, {1, 1, 2}, {1, 0, 20000}};
        for (int[] vote : votes) {
            for (int[] limit : limits) {
                PollAudit x = Scene.poll(20000, vote);
                Model model = new Model();
                for (int b = 0; b < 5; b++) {
                    model.batch(4000);
                }
                model.candidate(vote[0]);
                model.candidate(vote[1]);
                x.fraction(0, limit[0], limit[1]);
                model.fraction(0, limit[0], limit[1]);
                x.start(false, false);
                model.start(false, false);
                for (int[] s : shares) {
                    for (int n : new int[] {1, 29, 30}) {
                        Check.due("risk", model.risk(0, n, s[0], s[1], s[2]), () -> x.risk(0, n, s[0], s[1], s[2]));
                        Check.same("odds", model.shownAs(), Scene.part(x, 0) + "/" + Scene.part(x, 1));
                        Check.due("size above", model.size(0), () -> x.size(0));
                        Check.due("size below", model.size(1), () -> x.size(1));
                    }
                }
            }
        }
    }

    private static void riskOfEachPair() {
        Check.about("19: THE ODDS of pair k");
        PollAudit x = Scene.poll(4, 4, 2, 0);
        x.fraction(0, 1, 2);
        x.start(false, false);
        // Pair 0 needs three draws more for the winner than it has, as 64 / 27 is 2 or more; pair 1 needs one.
        odds(x, 0, 1, 1, 0, 2, 0, 1);
        Check.due("pair 1", 0, () -> x.risk(1, 1, 1, 0, 2));
        Scene.isShown("pair 1", x, 1, 2);
        Check.none("pair 2", () -> x.risk(2, 1, 1, 0, 2));
    }

    private static void riskStages() {
        Check.about("19: IllegalStateException: SETTING, before all else");
        PollAudit x = Scene.small();
        Check.stage("risk while setting", () -> x.risk(0, 1, 1, 1, 2));
        Check.stage("a wrong one while setting", () -> x.risk(-1, 31, -1, -1, 0));
        for (int stage = 0; stage < Scene.STAGES; stage++) {
            for (int kind = 0; kind < 4; kind++) {
                PollAudit y = Scene.at(stage, (kind & 1) != 0, (kind & 2) != 0);
                if (stage == 0) {
                    Check.stage("risk at stage 0", () -> y.risk(0, 6, 1, 0, 1));
                } else {
                    Check.due("risk at stage " + stage, 1, () -> y.risk(0, 6, 1, 0, 1));
                }
            }
        }
    }

    private static void riskChangesNoAudit() {
        Check.about("19: SHOWN, and nothing else");
        for (int stage = 1; stage < Scene.STAGES; stage++) {
            PollAudit x = Scene.at(stage, false, false);
            PollAudit twin = Scene.at(stage, false, false);
            x.risk(0, 30, 1, 1, 3);
            Check.same("what comes behind risk at stage " + stage, Scene.rest(twin), Scene.rest(x));
        }
    }

    private static void showRange() {
        PollAudit x = third();
        x.show(2, 0);
        Check.about("20: IndexOutOfBoundsException: no such what");
        for (int wrong : new int[] {-1, 5, LEAST, MOST}) {
            Check.none("show(" + wrong + ", 0)", () -> x.show(wrong, 0));
        }
        Check.about("20: IndexOutOfBoundsException: no such pair");
        for (int wrong : new int[] {-1, 1, LEAST, MOST}) {
            Check.none("show(0, " + wrong + ")", () -> x.show(0, wrong));
            Check.none("show(2, " + wrong + ")", () -> x.show(2, wrong));
        }
        Scene.isShown("what was shown stays", x, 3, 4);
        PollAudit y = Scene.small();
        y.start(true, false);
        Check.none("T of no pair when comparing", () -> y.show(0, 1));
        Check.none("the share of no pair when comparing", () -> y.show(2, 1));
    }

    private static void showT() {
        Check.about("20: 0 T of pair k (1 when comparing): whether it is 1 or more");
        PollAudit x = Scene.poll(4, 4, 2, 0);
        x.start(false, false);
        Scene.shows(x, 0, 0, 1, 1);
        Scene.drawAs(x, 0, 0);
        Scene.shows(x, 0, 0, 4, 3);
        Scene.shows(x, 0, 1, 2, 1);
        Scene.drawAs(x, 1, 1);
        Scene.shows(x, 0, 0, 8, 9);
        Scene.shows(x, 0, 1, 2, 1);
        x.again();
        x.start(true, false);
        Scene.drawAs(x, 0, 0);
        Scene.shows(x, 0, 0, 1, 1);
        Scene.shows(x, 0, 1, 1, 1);
    }

    private static void showP() {
        Check.about("20: 1 P (1 when polling): whether it is 1 or more");
        PollAudit x = Scene.small();
        x.record(0, 5, 0);
        x.start(false, false);
        Scene.drawAs(x, 0, 0);
        Scene.shows(x, 1, 0, 1, 1);
        x.again();
        x.start(true, false);
        Scene.shows(x, 1, 0, 1, 1);
        Scene.drawAs(x, 0, 0);
        Scene.shows(x, 1, 0, 9, 11);
        Scene.drawAs(x, 1, 1);
        // E is 2 / 2: over 1 - 10 / 11.
        Scene.shows(x, 1, 0, 81, 11);
    }

    private static void showShare() {
        Check.about("20: 2 the share of the winner in pair k, v(w) / (v(w) + v(l))");
        PollAudit x = Scene.poll(20000, 6, 20000, 0, 19999);
        x.set(0, 2);
        x.start(true, false);
        // Pairs are 1 over 0, 1 over 2, 3 over 0, 3 over 2.
        Scene.shows(x, 2, 0, 10000, 10003);
        Scene.shows(x, 2, 1, 1, 1);
        Scene.shows(x, 2, 2, 19999, 20005);
        Scene.shows(x, 2, 3, 1, 1);
    }

    private static void showMargin() {
        Check.about("20: 3 M / N");
        PollAudit x = Scene.poll(5, 5, 0);
        x.start(false, false);
        Scene.shows(x, 3, 0, 1, 1);
        PollAudit y = Scene.poll(20000, 20000, 19999);
        y.start(false, false);
        Scene.shows(y, 3, 0, 1, 20000);
        PollAudit z = Scene.poll(20, 16, 10, 2);
        z.set(0, 2);
        z.start(true, false);
        Scene.shows(z, 3, 0, 2, 5);
        z.again();
        z.set(0, 1);
        z.start(true, false);
        Scene.shows(z, 3, 0, 3, 10);
    }

    private static void showLimit() {
        Check.about("20: 4 THE LIMIT, in lowest terms, in any stage");
        PollAudit x = Scene.small();
        x.fraction(0, 6, 18);
        Scene.shows(x, 4, 0, 1, 3);
        for (int stage = 0; stage < Scene.STAGES; stage++) {
            PollAudit y = Scene.at(stage, true, false);
            Scene.shows(y, 4, 0, stage == 3 ? 9 : 1, 10);
        }
    }

    private static void showWhatPairDoesNotMatter() {
        Check.about("20: k does not matter for 1, 3, 4");
        PollAudit x = third();
        for (int k : new int[] {-1, 0, 1, 99, LEAST, MOST}) {
            Scene.shows(x, 1, k, 1, 1);
            Scene.shows(x, 3, k, 2, 5);
            Scene.shows(x, 4, k, 1, 3);
        }
    }

    private static void showStages() {
        Check.about("20: IllegalStateException: SETTING (0 to 3), before no such pair");
        PollAudit x = Scene.small();
        for (int what = 0; what < 4; what++) {
            int w = what;
            Check.stage("show(" + w + ", 0) while setting", () -> x.show(w, 0));
            Check.stage("show(" + w + ", 9) while setting", () -> x.show(w, 9));
        }
        Check.due("what is shown stays", 0, () -> x.size(0));
        Check.none("no such what while setting", () -> x.show(5, 0));
        for (int stage = 1; stage < Scene.STAGES; stage++) {
            PollAudit y = Scene.at(stage, false, true);
            Scene.shows(y, 2, 0, 3, 4);
            Scene.shows(y, 3, 0, 2, 5);
        }
    }

    private static void shownIsACopy() {
        Check.about("20: A fraction is SHOWN: it is what it was when it was shown");
        PollAudit x = third();
        Scene.drawAs(x, 0, 0);
        x.show(0, 0);
        Scene.drawBallot(x, 0);
        Scene.isShown("T of one draw", x, 3, 2);
        x.again();
        Scene.isShown("T of one draw, behind again", x, 3, 2);
        x.fraction(0, 2, 5);
        Scene.isShown("T of one draw, behind a limit", x, 3, 2);
    }

    /** T is 256 with 8 draws for the winner, the limit 1 / 256: the odds are 1 / z to the 8th. */
    private static void sizes() {
        PollAudit x = Scene.poll(5, 5, 0);
        Check.about("21: IndexOutOfBoundsException");
        for (int wrong : new int[] {-1, 2, LEAST, MOST}) {
            Check.none("size(" + wrong + ")", () -> x.size(wrong));
        }
        Check.about("21: How many numbers of 32 bits: the highest is not 0; 0 above for 0");
        Check.due("0 above", 0, () -> x.size(0));
        Check.due("1 below", 1, () -> x.size(1));
        x.fraction(0, 1, 256);
        x.start(false, false);
        x.risk(0, 8, 1, 0, 15);
        Check.due("15 to the 8th, above", 1, () -> x.size(0));
        Check.due("15 to the 8th, below", 1, () -> x.size(1));
        Check.due("15 to the 8th", (int) 2562890625L, () -> x.limb(1, 0));
        x.risk(0, 8, 1, 0, 16);
        Check.due("2 to the 32nd has two", 2, () -> x.size(1));
        Check.due("its lowest", 0, () -> x.limb(1, 0));
        Check.due("its highest", 1, () -> x.limb(1, 1));
        x.risk(0, 8, 1, 0, 256);
        Check.due("2 to the 64th has three", 3, () -> x.size(1));
        x.risk(0, 8, 1, 0, 255);
        Check.due("255 to the 8th has two", 2, () -> x.size(1));
        x.show(4, 0);
        Check.due("1 / 256 above", 1, () -> x.size(0));
        Check.due("1 / 256 below", 1, () -> x.size(1));
        Check.due("256", 256, () -> x.limb(1, 0));
        x.risk(0, 7, 1, 0, 1);
        Check.due("0 above again", 0, () -> x.size(0));
        Check.due("1 below again", 1, () -> x.size(1));
    }

    private static void limbs() {
        PollAudit x = third();
        Check.about("22: IndexOutOfBoundsException");
        for (int part : new int[] {-1, 2, LEAST, MOST}) {
            Check.none("limb(" + part + ", 0)", () -> x.limb(part, 0));
        }
        Check.none("limb 0 of 0", () -> x.limb(0, 0));
        Check.none("limb 1 of 1", () -> x.limb(1, 1));
        x.risk(0, 30, 2, 2, 5);
        for (int part = 0; part < 2; part++) {
            int p = part;
            Check.due("size", 3, () -> x.size(p));
            for (int i : new int[] {-1, 3, 4, LEAST, MOST}) {
                Check.none("limb(" + p + ", " + i + ")", () -> x.limb(p, i));
            }
        }
        Check.about("22: Number i of a part, the lowest 32 bits first");
        // The part above can be divided by 5 once.
        BigInteger below = BigInteger.valueOf(5).pow(29);
        for (int i = 0; i < 3; i++) {
            int at = i;
            Check.due("limb " + i + " of 5 to the 29th", below.shiftRight(32 * at).intValue(), () -> x.limb(1, at));
        }
        Check.due("the lowest above", -379728960, () -> x.limb(0, 0));
        x.show(4, 0);
        Check.about("22: what was shown before is gone");
        Check.none("limb 1 of 1 / 3 above", () -> x.limb(0, 1));
        Check.none("limb 1 of 1 / 3 below", () -> x.limb(1, 1));
    }

    /** A part of what such an object shows; each page of it is read of another one, which has then at most 512 calls. */
    private static BigInteger longPart(Supplier<PollAudit> scene, int part) {
        int size = scene.get().size(part);
        BigInteger number = BigInteger.ZERO;
        for (int first = 0; first < size; first += 64) {
            PollAudit x = scene.get();
            for (int i = first; i < Math.min(first + 64, size); i++) {
                number = number.or(BigInteger.valueOf(x.limb(part, i) & 0xffffffffL).shiftLeft(32 * i));
            }
        }
        return number;
    }

    private static void longestT() {
        Check.about("20: T of 200 draws");
        Supplier<PollAudit> scene = () -> {
            PollAudit x = Scene.poll(20000, 20000, 19999);
            x.digit(8);
            x.fraction(0, 1, 1000000);
            x.set(1, 200);
            x.start(false, true);
            for (int i = 0; i < 200; i++) {
                int seen = i % 3 == 0 ? 1 : 0;
                x.draw();
                Check.answer(() -> x.see(seen));
            }
            Check.due("the cap", 4, () -> x.told(0));
            x.show(0, 0);
            return x;
        };
        PollAudit x = scene.get();
        int won = x.of(0, 2);
        int lost = x.of(1, 2);
        Check.due("all draws are for the two", 200, () -> won + lost);
        BigInteger up = BigInteger.valueOf(40000).pow(won).multiply(BigInteger.valueOf(39998).pow(lost));
        BigInteger low = BigInteger.valueOf(39999).pow(200);
        BigInteger common = up.gcd(low);
        Check.same("T, above", up.divide(common).toString(), longPart(scene, 0).toString());
        Check.same("T, below", low.divide(common).toString(), longPart(scene, 1).toString());
        Check.due("T was long", true, () -> x.size(1) >= 95);
    }

    /** Factors of some 51 bits that have little in common, and errors enough that 200 draws do not confirm. */
    private static void longestP() {
        Check.about("20: P of 200 draws");
        Model model = new Model();
        for (int b = 0; b < 5; b++) {
            model.batch(b < 4 ? 4000 : 3997);
        }
        model.candidate(19993);
        model.candidate(5);
        model.candidate(2);
        model.digit(8);
        model.fraction(1, 999983, 500009);
        model.set(1, 200);
        model.record(0, 12000, 0);
        model.record(12000, 7997, 1);
        model.start(true, true);
        while (model.told(0) == 1) {
            int ballot = model.draw();
            if (model.told(0) == 2) {
                model.see(ballot < 12000 ? 2 : 0);
            }
        }
        model.show(1, 0);
        Check.due("it took all draws", 4, () -> model.told(0));
        Supplier<PollAudit> scene = () -> {
            PollAudit x = Scene.poll(19997, 19993, 5, 2);
            x.digit(8);
            x.fraction(1, 999983, 500009);
            x.set(1, 200);
            x.record(0, 12000, 0);
            x.record(12000, 7997, 1);
            x.start(true, true);
            for (int i = 0; i < 200; i++) {
                int ballot = x.draw();
                Check.answer(() -> x.see(ballot < 12000 ? 2 : 0));
            }
            Check.due("P of 1 or more", model.show(1, 0), () -> x.show(1, 0));
            return x;
        };
        Check.same("P", model.shownAs(), longPart(scene, 0) + "/" + longPart(scene, 1));
        Check.due("P was long", true, () -> model.size(1) > 280);
        PollAudit last = scene.get();
        Check.due("stage", 4, () -> last.told(0));
    }
}
