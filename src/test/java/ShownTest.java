import java.math.BigInteger;
import java.nio.charset.StandardCharsets;
import java.security.MessageDigest;

/** Promises 18 to 22: digests, odds, and fractions in their numbers of 32 bits. */
final class ShownTest {
    public static void main(String[] args) throws Exception {
        digest();
        risk();
        riskRowByRow();
        riskWrong();
        show();
        sizeAndLimb();
        longestT();
        longestP();
        Check.end();
    }

    /** Candidates with 3 and 1 votes, a limit of 1 / 3: T goes by 3 / 2 and by 1 / 2, to 3. */
    private static PollAudit small() {
        PollAudit x = new PollAudit();
        x.batch(5);
        x.candidate(3);
        x.candidate(1);
        x.fraction(0, 1, 3);
        return x;
    }

    private static BigInteger part(PollAudit x, int part) {
        BigInteger number = BigInteger.ZERO;
        for (int i = x.size(part) - 1; i >= 0; i--) {
            number = number.shiftLeft(32).add(BigInteger.valueOf(x.limb(part, i) & 0xffffffffL));
        }
        return number;
    }

    private static void shown(String name, PollAudit x, BigInteger up, BigInteger low) {
        BigInteger common = up.gcd(low);
        Check.same(name + ", above", up.divide(common).toString(), part(x, 0).toString());
        Check.same(name + ", below", low.divide(common).toString(), part(x, 1).toString());
        for (int p = 0; p < 2; p++) {
            int n = p;
            Check.due(name + ", the highest is not 0", true, () -> x.size(n) == 0 || x.limb(n, x.size(n) - 1) != 0);
        }
    }

    private static void digest() throws Exception {
        PollAudit x = small();
        digestsOf(x, "");
        String seed = "";
        for (int d = 0; d < 20; d++) {
            x.digit(d * 7 % 10);
            seed += d * 7 % 10;
            digestsOf(x, seed);
        }
        x.start(false, true);
        digestsOf(x, seed);
        Check.none("byte -1", () -> x.digest(1, -1));
        Check.none("byte 32", () -> x.digest(0, 32));
        Check.bad("of 0", () -> x.digest(0, 31));
        Check.bad("of the least number", () -> x.digest(Integer.MIN_VALUE, 0));
    }

    private static void digestsOf(PollAudit x, String seed) throws Exception {
        for (int n : new int[] {1, 9, 10, 99, 1020, 1000000000, Integer.MAX_VALUE}) {
            byte[] due = MessageDigest.getInstance("SHA-256").digest((seed + "," + n).getBytes(StandardCharsets.US_ASCII));
            for (int i = 0; i < 32; i += n == 1 ? 1 : 9) {
                int at = i;
                Check.due("digest of " + seed + "," + n, due[at] & 255, () -> x.digest(n, at));
            }
        }
    }

    private static void risk() {
        PollAudit x = small();
        Check.stage("risk while setting", () -> x.risk(0, 1, 1, 1, 2));
        x.start(false, false);
        Check.due("no draws", 0, () -> x.risk(0, 0, 1, 1, 2));
        shown("no draws", x, BigInteger.ZERO, BigInteger.ONE);
        // Three for the winner make 27 / 8; two make 9 / 4.
        Check.due("two draws", 0, () -> x.risk(0, 2, 5, 0, 5));
        Check.due("size of 0", 0, () -> x.size(0));
        Check.due("three draws", 1, () -> x.risk(0, 3, 5, 0, 5));
        shown("three draws", x, BigInteger.ONE, BigInteger.ONE);
        Check.due("three draws by half", 0, () -> x.risk(0, 3, 2, 1, 4));
        shown("three draws by half", x, BigInteger.ONE, BigInteger.valueOf(8));
        Check.due("all others", 0, () -> x.risk(0, 30, 0, 0, 20000));
        shown("all others", x, BigInteger.ZERO, BigInteger.ONE);
        Check.due("all for the loser", 0, () -> x.risk(0, 30, 0, 7, 7));
        Check.due("ten draws", 0, () -> x.risk(0, 10, 1, 3, 5));
        shown("ten draws", x, BigInteger.valueOf(174842), BigInteger.valueOf(9765625));
        PollAudit y = small();
        y.fraction(0, 1, 4);
        y.start(true, false);
        // 27 / 8 is not 4; 81 / 16 is: of four draws by 1 / 2 it is 1 / 16, by 3 / 4 81 / 256.
        Check.due("below the limit", 0, () -> y.risk(0, 4, 1, 1, 2));
        Check.due("above the limit", 1, () -> y.risk(0, 4, 3, 1, 4));
        shown("above the limit", y, BigInteger.valueOf(81), BigInteger.valueOf(256));
        PollAudit z = new PollAudit();
        z.batch(5);
        z.candidate(3);
        z.candidate(0);
        z.fraction(0, 1, 4);
        z.start(false, false);
        // T is 4 with two draws for the winner, and 0 for ever behind one for the loser.
        Check.due("just the limit", 0, () -> z.risk(0, 2, 1, 1, 2));
        shown("just the limit", z, BigInteger.ONE, BigInteger.valueOf(4));
        Check.due("none for the loser may come first", 0, () -> z.risk(0, 30, 1, 1, 2));
        shown("the loser stops it", z, BigInteger.ONE, BigInteger.valueOf(4));
    }

    private static void riskRowByRow() {
        int[][] polls = {{3, 1, 1, 3}, {5, 4, 2, 3}, {5, 0, 1, 9}, {4, 3, 7, 10}, {5, 2, 99, 100}};
        for (int[] poll : polls) {
            PollAudit x = new PollAudit();
            x.batch(5);
            x.candidate(poll[1]);
            x.candidate(poll[0]);
            x.fraction(0, poll[2], poll[3]);
            x.start(false, false);
            for (int n = 0; n <= 8; n++) {
                long sum = rows(poll, n, new long[] {3, 2, 1}, 1, 1);
                int draws = n;
                long all = Math.round(Math.pow(6, n));
                Check.due("odds", sum * poll[3] > all * poll[2] ? 1 : 0, () -> x.risk(0, draws, 3, 2, 6));
                shown("odds of " + n, x, BigInteger.valueOf(sum), BigInteger.valueOf(all));
            }
        }
    }

    private static long rows(int[] poll, int n, long[] weights, long up, long low) {
        if (up * poll[2] >= low * poll[3]) {
            return Math.round(Math.pow(6, n));
        }
        if (n == 0) {
            return 0;
        }
        long both = poll[0] + poll[1];
        return weights[0] * rows(poll, n - 1, weights, up * 2 * poll[0], low * both)
            + weights[1] * rows(poll, n - 1, weights, up * 2 * poll[1], low * both)
            + weights[2] * rows(poll, n - 1, weights, up, low);
    }

    private static void riskWrong() {
        PollAudit x = small();
        Check.stage("the stage first", () -> x.risk(9, 99, 1, 1, 1));
        x.start(false, false);
        x.risk(0, 3, 2, 1, 4);
        Check.none("the pair next", () -> x.risk(1, 31, 1, 1, 1));
        Check.none("pair -1", () -> x.risk(-1, 3, 1, 1, 2));
        Check.bad("31 draws", () -> x.risk(0, 31, 1, 1, 2));
        Check.bad("-1 draws", () -> x.risk(0, -1, 1, 1, 2));
        Check.bad("of 0", () -> x.risk(0, 3, 0, 0, 0));
        Check.bad("of 20001", () -> x.risk(0, 3, 0, 0, 20001));
        Check.bad("x -1", () -> x.risk(0, 3, -1, 1, 2));
        Check.bad("y -1", () -> x.risk(0, 3, 1, -1, 2));
        Check.bad("together 3 of 2", () -> x.risk(0, 3, 2, 1, 2));
        Check.bad("together far too many", () -> x.risk(0, 3, Integer.MAX_VALUE, Integer.MAX_VALUE, 2));
        shown("what was shown stays", x, BigInteger.ONE, BigInteger.valueOf(8));
    }

    private static void show() {
        PollAudit x = small();
        x.fraction(0, 6, 18);
        for (int what = 0; what < 4; what++) {
            int w = what;
            Check.stage("show while setting " + w, () -> x.show(w, 9));
        }
        Check.none("show -1", () -> x.show(-1, 0));
        Check.none("show 5", () -> x.show(5, 0));
        Check.due("the limit while setting", false, () -> x.show(4, -7));
        shown("the limit", x, BigInteger.ONE, BigInteger.valueOf(3));
        x.start(false, false);
        Check.due("T", true, () -> x.show(0, 0));
        shown("T", x, BigInteger.ONE, BigInteger.ONE);
        Check.due("the share", false, () -> x.show(2, 0));
        shown("the share", x, BigInteger.valueOf(3), BigInteger.valueOf(4));
        Check.due("M / N", false, () -> x.show(3, 77));
        shown("M / N", x, BigInteger.valueOf(2), BigInteger.valueOf(5));
        Check.none("T of no pair", () -> x.show(0, 1));
        Check.none("share of no pair", () -> x.show(2, -1));
        shown("M / N stays", x, BigInteger.valueOf(2), BigInteger.valueOf(5));
        Check.due("P when polling", true, () -> x.show(1, 77));
        shown("P when polling", x, BigInteger.ONE, BigInteger.ONE);
        x.coins(0, 6);
        x.draw();
        x.see(0);
        x.show(0, 0);
        x.draw();
        shown("a draw leaves what is shown", x, BigInteger.valueOf(3), BigInteger.TWO);
        PollAudit y = new PollAudit();
        y.batch(5);
        y.candidate(5);
        y.candidate(0);
        y.start(true, false);
        Check.due("a share of 1", true, () -> y.show(2, 0));
        Check.due("M is N", true, () -> y.show(3, 0));
        Check.none("T of no pair when comparing", () -> y.show(0, 1));
        Check.due("T when comparing", true, () -> y.show(0, 0));
    }

    private static void sizeAndLimb() {
        PollAudit x = small();
        for (int part : new int[] {-1, 2, Integer.MIN_VALUE, Integer.MAX_VALUE}) {
            Check.none("size " + part, () -> x.size(part));
            Check.none("limb " + part, () -> x.limb(part, 0));
        }
        Check.none("limb 0 of 0", () -> x.limb(0, 0));
        Check.none("limb 1 of 1", () -> x.limb(1, 1));
        Check.none("limb -1", () -> x.limb(1, -1));
        x.start(false, false);
        x.risk(0, 30, 2, 2, 5);
        Check.due("limbs above", 3, () -> x.size(0));
        Check.due("the lowest", -379728960, () -> x.limb(0, 0));
        Check.due("limbs below", 3, () -> x.size(1));
        Check.none("limb 3", () -> x.limb(0, 3));
    }

    private static void longestT() {
        PollAudit x = bigPoll(4000, 20000, 19999);
        x.fraction(0, 1, 1000000);
        x.set(1, 200);
        x.start(false, true);
        for (int i = 0; i < 200; i++) {
            x.draw();
            if (x.told(0) == 2) {
                x.see(i % 3 == 0 ? 1 : 0);
            }
        }
        Check.due("the cap", 4, () -> x.told(0));
        BigInteger up = BigInteger.valueOf(40000).pow(x.of(0, 2)).multiply(BigInteger.valueOf(39998).pow(x.of(1, 2)));
        BigInteger low = BigInteger.valueOf(39999).pow(x.of(0, 2) + x.of(1, 2));
        x.show(0, 0);
        shown("the longest T", x, up, low);
        Check.due("T was long", true, () -> x.size(1) >= 95);
    }

    /** Factors of some 51 bits that have little in common, and errors enough that 200 draws do not confirm. */
    private static void longestP() {
        PollAudit x = bigPoll(3997, 19993, 5, 2);
        Model model = new Model();
        for (int b = 0; b < 4; b++) {
            model.batch(4000);
        }
        model.batch(3997);
        model.candidate(19993);
        model.candidate(5);
        model.candidate(2);
        model.digit(8);
        x.fraction(1, 999983, 500009);
        model.fraction(1, 999983, 500009);
        x.set(1, 200);
        model.set(1, 200);
        x.record(0, 12000, 0);
        model.record(0, 12000, 0);
        x.record(12000, 7997, 1);
        model.record(12000, 7997, 1);
        x.start(true, true);
        model.start(true, true);
        int longest = 0;
        for (int i = 0; i < 200; i++) {
            int ballot = model.draw();
            int seen = ballot < 12000 ? 2 : 0;
            Check.due("draw", ballot, () -> x.draw());
            if (model.told(0) == 2) {
                Check.due("see", model.see(seen), () -> x.see(seen));
            }
            Check.due("P", model.show(1, 0), () -> x.show(1, 0));
            samePart(x, model, 0);
            samePart(x, model, 1);
            longest = Math.max(longest, x.size(1));
        }
        Check.due("it took all draws", 4, () -> x.told(0));
        Check.same("P was long", "true", longest > 280 ? "true" : "only " + longest);
    }

    private static void samePart(PollAudit x, Model model, int part) {
        Check.due("size of P", model.size(part), () -> x.size(part));
        for (int i = 0; i < model.size(part); i++) {
            int at = i;
            Check.due("limb of P", model.limb(part, at), () -> x.limb(part, at));
        }
    }

    private static PollAudit bigPoll(int lastBatch, int... votes) {
        PollAudit x = new PollAudit();
        for (int b = 0; b < 4; b++) {
            x.batch(4000);
        }
        x.batch(lastBatch);
        for (int v : votes) {
            x.candidate(v);
        }
        x.digit(8);
        return x;
    }
}
