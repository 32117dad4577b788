/** Promises 10 to 17: drawing, seeing, counting, beginning again, and what is told of it. */
final class AuditTest {
    public static void main(String[] args) {
        drawByCoins();
        drawBySeed();
        see();
        pollToTheLimit();
        sureStaysSure();
        manyPairs();
        compareToTheLimit();
        blankComparing();
        fullCount();
        again();
        wrongNumbers();
        Check.end();
    }

    /** 5 ballots in batches of 3 and 2, candidates with 3 and 1 votes: T goes by 3 / 2 and by 1 / 2. */
    private static PollAudit small() {
        PollAudit x = new PollAudit();
        x.batch(3);
        x.batch(2);
        x.candidate(3);
        x.candidate(1);
        return x;
    }

    private static void shows(PollAudit x, int what, int up, int low) {
        String name = "show " + what + " of " + up + " / " + low;
        Check.due(name, up >= low, () -> x.show(what, 0));
        Check.due(name + ", above", up, () -> x.size(0) == 0 ? 0 : x.limb(0, 0));
        Check.due(name + ", below", low, () -> x.limb(1, 0));
    }

    private static void drawByCoins() {
        PollAudit x = small();
        Check.stage("draw while setting", () -> x.draw());
        x.coins(0b011, 3);
        x.start(false, false);
        Check.due("three coins", 3, () -> x.draw());
        Check.due("to be seen", 3, () -> x.told(10));
        Check.due("stage 2", 2, () -> x.told(0));
        Check.stage("draw while one is to be seen", () -> x.draw());
        Check.due("draws", 1, () -> x.told(4));
        Check.due("none seen yet", 0, () -> x.told(5));
        Check.due("drawn once", 1, () -> x.ballot(3, 3));
        Check.due("not seen", -2, () -> x.ballot(3, 2));
        x.see(0);
        x.coins(0b0111, 4);
        Check.due("the same again", 3, () -> x.draw());
        Check.due("it counts at once", 1, () -> x.told(0));
        Check.due("drawn twice", 2, () -> x.ballot(3, 3));
        Check.due("for it", 2, () -> x.of(0, 2));
        Check.due("one seen", 1, () -> x.told(5));
        shows(x, 0, 9, 4);
        Check.due("too few coins", -1, () -> x.draw());
        Check.due("coins stay", 1, () -> x.told(7));
        Check.due("draws stay", 2, () -> x.told(4));
        x.coins(0b01, 2);
        Check.due("101 is beyond the last ballot", -2, () -> x.draw());
        Check.due("blanks", 1, () -> x.told(6));
        Check.due("a blank is a draw", 3, () -> x.told(4));
        Check.due("a blank is not seen", 1, () -> x.told(5));
        Check.due("a blank is not to be seen", 1, () -> x.told(0));
        shows(x, 0, 9, 4);
        x.coins(0b100, 3);
        Check.due("the last ballot", 4, () -> x.draw());
    }

    private static void drawBySeed() {
        PollAudit x = new PollAudit();
        x.batch(17);
        x.candidate(9);
        x.candidate(5);
        x.digit(1);
        x.digit(2);
        x.coins(5, 9);
        x.start(false, true);
        int[] due = {7, 15, 16, 8, 11, 14, 13, 10, 0, 7, 4, 10, 10, 4};
        for (int i = 0; i < due.length; i++) {
            int n = i;
            Check.due("draw " + (n + 1), due[n], () -> x.draw());
            if (x.told(0) == 2) {
                x.see(-1);
            }
        }
        Check.due("no coins are drawn", 9, () -> x.told(7));
        Check.due("different", 10, () -> x.told(5));
        x.again();
        x.start(false, true);
        Check.due("from the first draw again", 7, () -> x.draw());
    }

    private static void see() {
        PollAudit x = small();
        Check.stage("see while setting", () -> x.see(0));
        Check.none("see a wrong one while setting", () -> x.see(2));
        x.coins(0b000001010, 9);
        x.start(false, false);
        Check.stage("see while drawing", () -> x.see(-1));
        x.draw();
        Check.none("see 2", () -> x.see(2));
        Check.none("see -2", () -> x.see(-2));
        Check.due("still to be seen", 2, () -> x.told(0));
        Check.due("see none", 1, () -> x.see(-1));
        Check.due("seen as none", -1, () -> x.ballot(0, 2));
        shows(x, 0, 1, 1);
        x.draw();
        Check.due("see the loser", 1, () -> x.see(1));
        Check.due("seen as the loser", 1, () -> x.ballot(1, 2));
        Check.due("for the loser", 1, () -> x.of(1, 2));
        Check.due("for the winner", 0, () -> x.of(0, 2));
        shows(x, 0, 1, 2);
        x.draw();
        Check.due("see the winner", 1, () -> x.see(0));
        shows(x, 0, 3, 4);
    }

    private static void pollToTheLimit() {
        PollAudit x = small();
        x.fraction(0, 4, 9);
        x.coins(0, 6);
        x.start(false, false);
        x.draw();
        Check.due("3 / 2 is not 9 / 4", 1, () -> x.see(0));
        Check.due("not sure", -1, () -> x.pair(0, 2));
        Check.due("draw to the limit", 0, () -> x.draw());
        Check.due("9 / 4 is enough", 3, () -> x.told(0));
        Check.due("sure with 2", 2, () -> x.pair(0, 2));
        Check.due("sure ones", 1, () -> x.told(9));
        Check.stage("draw when confirmed", () -> x.draw());
        Check.stage("see when confirmed", () -> x.see(0));
        Check.stage("count when confirmed", () -> x.counted(0, 1));
        Check.due("a winner", 1, () -> x.of(0, 1));
        Check.due("a loser", 0, () -> x.of(1, 1));
    }

    private static void sureStaysSure() {
        PollAudit x = new PollAudit();
        x.batch(4);
        x.candidate(4);
        x.candidate(2);
        x.candidate(0);
        x.fraction(0, 1, 2);
        x.coins(0b0001100, 7);
        x.start(false, false);
        x.draw();
        x.see(0);
        Check.due("to 2 with one", 1, () -> x.pair(1, 2));
        Check.due("4 / 3 is not enough", -1, () -> x.pair(0, 2));
        Check.due("one is sure", 1, () -> x.told(9));
        x.draw();
        Check.due("see the last", 1, () -> x.see(2));
        Check.due("it stays sure", 1, () -> x.pair(1, 2));
        Check.due("its T is 0", false, () -> x.show(0, 1));
        Check.due("0 has no number above", 0, () -> x.size(0));
        Check.due("0 is over 1", 1, () -> x.limb(1, 0));
        x.draw();
        Check.due("16 / 9 is not enough", 1, () -> x.see(0));
        x.coins(0, 2);
        x.draw();
        Check.due("64 / 27 is", 3, () -> x.told(0));
        Check.due("sure with 4", 4, () -> x.pair(0, 2));
        Check.due("T stays 0", false, () -> x.show(0, 1));
    }

    private static void manyPairs() {
        PollAudit x = new PollAudit();
        x.batch(50);
        int[] votes = {5, 40, 6, 41, 7, 42, 8, 43};
        for (int v : votes) {
            x.candidate(v);
        }
        x.set(0, 4);
        Check.none("no pair while setting", () -> x.pair(0, 0));
        Check.due("no pairs while setting", 0, () -> x.told(8));
        Check.due("no winner while setting", 0, () -> x.of(1, 1));
        x.start(false, false);
        Check.due("16 pairs", 16, () -> x.told(8));
        for (int k = 0; k < 16; k++) {
            int n = k;
            Check.due("winner of " + n, 1 + 2 * (n / 4), () -> x.pair(n, 0));
            Check.due("loser of " + n, 2 * (n % 4), () -> x.pair(n, 1));
            Check.due("when " + n + " was sure", -1, () -> x.pair(n, 2));
        }
        Check.none("pair 16", () -> x.pair(16, 0));
        Check.due("share of pair 9", false, () -> x.show(2, 9));
        Check.due("42 /", 7, () -> x.limb(0, 0));
        Check.due("/ 48", 8, () -> x.limb(1, 0));
        Check.due("least margin", false, () -> x.show(3, 0));
        Check.due("32 /", 16, () -> x.limb(0, 0));
        Check.due("/ 50", 25, () -> x.limb(1, 0));
    }

    /** N 10, M 4, gamma 2: a draw as recorded makes P times 9 / 10; E is at most 2 / 4. */
    private static PollAudit comparing() {
        PollAudit x = new PollAudit();
        x.batch(10);
        x.candidate(7);
        x.candidate(3);
        x.candidate(1);
        x.fraction(1, 2, 1);
        x.fraction(0, 81, 100);
        x.record(0, 5, 0);
        x.record(5, 3, 1);
        return x;
    }

    private static void compareToTheLimit() {
        PollAudit x = comparing();
        x.coins(0b00000101, 8);
        x.start(true, false);
        shows(x, 1, 1, 1);
        x.draw();
        Check.due("as recorded", 1, () -> x.see(0));
        shows(x, 1, 9, 10);
        x.draw();
        Check.due("81 / 100 is enough", 3, () -> x.see(1));
        shows(x, 1, 81, 100);
        shows(x, 0, 1, 1);
        Check.due("none is sure by comparing", 0, () -> x.told(9));
        Check.due("no draw made it sure", -1, () -> x.pair(0, 2));
        x.again();
        x.coins(0b00000101, 8);
        x.coins(0b00011000, 8);
        x.start(true, false);
        x.draw();
        x.see(1);
        shows(x, 1, 9, 5);
        x.draw();
        Check.due("one for the winner over one for the loser", 1, () -> x.see(0));
        // E is the greatest of -2 / 4 and -1 / 6.
        shows(x, 1, 243, 175);
        x.draw();
        x.see(-1);
        // E is 1 / 4, not the second pair's 1 / 6.
        shows(x, 1, 243 * 6, 175 * 5);
        x.draw();
        Check.due("a record of none, seen as a loser", 1, () -> x.see(2));
        // E is 1 / 6, not the first pair's 0.
        shows(x, 1, 243 * 6 * 27, 175 * 5 * 25);
    }

    private static void blankComparing() {
        PollAudit x = comparing();
        x.coins(0b11111010, 8);
        x.start(true, false);
        Check.due("blank", -2, () -> x.draw());
        shows(x, 1, 9, 10);
        Check.due("blank again", -2, () -> x.draw());
        Check.due("confirmed by blanks", 3, () -> x.told(0));
        Check.due("two blanks", 2, () -> x.told(6));
        Check.due("none seen", 0, () -> x.told(5));
    }

    private static void fullCount() {
        PollAudit x = small();
        x.candidate(0);
        x.set(1, 2);
        Check.stage("count while setting", () -> x.counted(0, 5));
        Check.bad("count 6 of 5 while setting", () -> x.counted(0, 6));
        x.coins(0b000001, 6);
        x.start(false, false);
        x.draw();
        Check.due("one draw of two", 1, () -> x.see(0));
        x.draw();
        Check.due("the cap", 4, () -> x.see(1));
        Check.stage("draw at the cap", () -> x.draw());
        Check.none("count of 3", () -> x.counted(3, 9));
        Check.none("count of -1", () -> x.counted(-1, 0));
        Check.bad("count -1", () -> x.counted(0, -1));
        Check.bad("count 6", () -> x.counted(0, 6));
        Check.due("none told", -1, () -> x.of(0, 3));
        Check.due("first count", 1, () -> x.counted(1, 2));
        Check.due("the same candidate", 1, () -> x.counted(1, 3));
        Check.due("second count", 2, () -> x.counted(0, 5));
        Check.due("still wanted", 4, () -> x.told(0));
        Check.due("not right yet", 0, () -> x.told(12));
        Check.due("the latest", 3, () -> x.of(1, 3));
        Check.due("the last count", 3, () -> x.counted(2, 0));
        Check.due("counted", 5, () -> x.told(0));
        Check.due("right", 1, () -> x.told(12));
        Check.stage("count when counted", () -> x.counted(0, 1));
        countsAs(2, 2, 0, 0);
        countsAs(1, 2, 0, 0);
        countsAs(2, 1, 2, 0);
        countsAs(5, 4, 4, 1);
    }

    private static void countsAs(int a, int b, int c, int right) {
        PollAudit x = small();
        x.candidate(0);
        x.set(1, 1);
        x.coins(0, 3);
        x.start(true, false);
        x.draw();
        x.see(1);
        x.counted(0, a);
        x.counted(1, b);
        x.counted(2, c);
        Check.due("count of " + a + ", " + b + ", " + c, right, () -> x.told(12));
    }

    private static void again() {
        PollAudit x = small();
        x.set(1, 3);
        x.fraction(0, 1, 7);
        x.record(1, 2, 1);
        x.digit(4);
        x.coins(0b000111001010000, 15);
        x.start(false, false);
        x.draw();
        x.see(1);
        x.draw();
        x.draw();
        x.see(0);
        Check.due("cap", 4, () -> x.told(0));
        x.counted(0, 2);
        x.counted(1, 2);
        x.show(0, 0);
        x.again();
        int[] due = {0, 2, 2, 5, 0, 0, 0, 0, 0, 0, -1, 3, 0};
        for (int what = 0; what < due.length; what++) {
            int w = what;
            Check.due("told behind again " + w, due[w], () -> x.told(w));
        }
        Check.due("what is shown stays", 3, () -> x.limb(0, 0));
        Check.due("no full count", -1, () -> x.of(0, 3));
        Check.due("no draws for it", 0, () -> x.of(1, 2));
        Check.due("no winner", 0, () -> x.of(0, 1));
        Check.due("votes stay", 3, () -> x.of(0, 0));
        Check.due("not seen", -2, () -> x.ballot(0, 2));
        Check.due("not drawn", 0, () -> x.ballot(0, 3));
        Check.due("record stays", 1, () -> x.ballot(2, 1));
        Check.due("cap stays", 3, () -> x.set(1, 9));
        Check.due("seed stays", 2, () -> x.digit(4));
        Check.due("limit stays", false, () -> x.show(4, 0));
        Check.due("/ 7", 7, () -> x.limb(1, 0));
        x.coins(0, 3);
        x.start(false, false);
        x.draw();
        Check.due("to be seen", 0, () -> x.told(10));
        x.again();
        Check.due("none to be seen", -1, () -> x.told(10));
        Check.stage("see behind again", () -> x.see(0));
        x.coins(0, 3);
        x.start(false, false);
        Check.due("the same ballot", 0, () -> x.draw());
        Check.due("is new", 2, () -> x.told(0));
        Check.due("T begins at 1", true, () -> x.show(0, 0));
        Check.due("1 /", 1, () -> x.limb(0, 0));
    }

    private static void wrongNumbers() {
        PollAudit x = small();
        x.start(false, false);
        for (int wrong : new int[] {-1, Integer.MIN_VALUE, Integer.MAX_VALUE}) {
            Check.none("told", () -> x.told(wrong));
            Check.none("of", () -> x.of(wrong, 0));
            Check.none("of what", () -> x.of(0, wrong));
            Check.none("pair", () -> x.pair(wrong, 0));
            Check.none("pair what", () -> x.pair(0, wrong));
            Check.none("ballot", () -> x.ballot(wrong, 0));
            Check.none("ballot what", () -> x.ballot(0, wrong));
        }
        Check.none("told 13", () -> x.told(13));
        Check.none("of 2", () -> x.of(2, 0));
        Check.none("of what 4", () -> x.of(0, 4));
        Check.none("pair 1", () -> x.pair(1, 0));
        Check.none("pair what 3", () -> x.pair(0, 3));
        Check.none("ballot 5", () -> x.ballot(5, 0));
        Check.none("ballot what 4", () -> x.ballot(0, 4));
        int[] batches = {0, 0, 0, 1, 1};
        for (int b = 0; b < 5; b++) {
            int n = b;
            Check.due("batch of " + n, batches[n], () -> x.ballot(n, 0));
        }
    }
}
