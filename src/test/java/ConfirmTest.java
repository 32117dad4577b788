import java.util.Arrays;

/** Part 3 of the terms, and promise 12: what polling and comparing make of draws, and the full count. */
final class ConfirmTest {
    private static final int LEAST = Integer.MIN_VALUE, MOST = Integer.MAX_VALUE;

    public static void main(String[] args) {
        steps();
        othersMoveNothing();
        sureAtTheLimit();
        sureStaysSure();
        confirmedWhenAllPairsAre();
        noVotesForTheLoser();
        pAtTheLimit();
        errors();
        errorOfABlank();
        greatestError();
        leastMargin();
        gammaNextToOne();
        marginOfAllBallots();
        lookedAtBehindEachDraw();
        theCap();
        countedRange();
        countedAnswers();
        countedLatest();
        right();
        rightOfManyPairs();
        countedStages();
        Check.end();
    }

    private static void steps() {
        Check.about("Terms: T = 1, times 2 v(w) / (v(w) + v(l)), times 2 v(l) / (v(w) + v(l))");
        PollAudit x = Scene.poll(8, 5, 3);
        x.start(false, false);
        Scene.shows(x, 0, 0, 1, 1);
        Scene.drawAs(x, 0, 0);
        Scene.shows(x, 0, 0, 5, 4);
        Scene.drawAs(x, 1, 1);
        Scene.shows(x, 0, 0, 15, 16);
        Scene.drawAs(x, 2, 1);
        Scene.shows(x, 0, 0, 45, 64);
    }

    private static void othersMoveNothing() {
        Check.about("Terms: others nothing");
        PollAudit x = Scene.poll(7, 5, 3, 1, 0);
        x.set(0, 2);
        x.start(false, false);
        Scene.drawAs(x, 0, -1);
        Scene.drawBallot(x, 7);
        Scene.drawAs(x, 1, 3);
        // Pairs are 0 over 2, 0 over 3, 1 over 2, 1 over 3.
        Scene.shows(x, 0, 0, 1, 1);
        Scene.shows(x, 0, 1, 0, 1);
        Scene.shows(x, 0, 2, 1, 1);
        Scene.shows(x, 0, 3, 0, 1);
        Scene.drawAs(x, 2, 0);
        Scene.shows(x, 0, 0, 5, 3);
        Scene.shows(x, 0, 2, 1, 1);
        Scene.drawAs(x, 3, 2);
        Scene.shows(x, 0, 0, 5, 9);
        Scene.shows(x, 0, 2, 1, 2);
        Scene.shows(x, 0, 3, 0, 1);
    }

    private static void sureAtTheLimit() {
        Check.about("Terms: SURE from the draw on with which first T is q / p or more");
        // T is 3 / 2, then 9 / 4.
        sureWith(2, 4, 9);
        sureWith(2, 444445, 1000000);
        sureWith(-1, 444444, 1000000);
        sureWith(1, 2, 3);
        sureWith(1, 666667, 1000000);
        sureWith(2, 666666, 1000000);
        sureWith(1, 999999, 1000000);
        sureWith(-1, 1, 1000000);
    }

    private static void sureWith(int draw, int up, int low) {
        PollAudit x = Scene.small();
        x.fraction(0, up, low);
        x.start(false, false);
        String name = "limit " + up + " / " + low;
        Check.due(name + ", draw 1", draw == 1 ? 3 : 1, () -> Scene.drawAs(x, 0, 0));
        if (draw != 1) {
            Check.due(name + ", not sure with 1", -1, () -> x.pair(0, 2));
            Check.due(name + ", none is", 0, () -> x.told(9));
            Check.due(name + ", draw 2", draw == 2 ? 3 : 1, () -> Scene.drawAs(x, 1, 0));
        }
        Check.due(name + ", sure with", draw, () -> x.pair(0, 2));
        Check.due(name + ", sure ones", draw == -1 ? 0 : 1, () -> x.told(9));
    }

    private static void sureStaysSure() {
        Check.about("Terms: it stays so; T goes on");
        PollAudit x = Scene.poll(4, 4, 2, 0);
        x.fraction(0, 1, 2);
        x.start(false, false);
        Check.due("for the winner", 1, () -> Scene.drawAs(x, 0, 0));
        Check.due("sure with 1, by 2", 1, () -> x.pair(1, 2));
        Check.due("not sure, by 4 / 3", -1, () -> x.pair(0, 2));
        Check.due("one is sure", 1, () -> x.told(9));
        Check.due("for the last", 1, () -> Scene.drawAs(x, 1, 2));
        Scene.shows(x, 0, 1, 0, 1);
        Check.due("it stays sure", 1, () -> x.pair(1, 2));
        Check.due("one is still sure", 1, () -> x.told(9));
        Check.due("for the winner", 1, () -> Scene.drawAs(x, 2, 0));
        Scene.shows(x, 0, 0, 16, 9);
        Scene.shows(x, 0, 1, 0, 1);
        Check.due("for the winner", 3, () -> Scene.drawAs(x, 3, 0));
        Check.due("sure with 4", 4, () -> x.pair(0, 2));
        Check.due("still sure with 1", 1, () -> x.pair(1, 2));
        Check.about("Terms: with which first");
        PollAudit y = Scene.poll(8, 8, 4, 0);
        y.fraction(0, 1, 3);
        y.start(false, false);
        Scene.drawAs(y, 0, 0);
        Scene.drawAs(y, 1, 0);
        Check.due("sure with 2, by 4", 2, () -> y.pair(1, 2));
        Scene.drawAs(y, 2, 0);
        Scene.shows(y, 0, 1, 8, 1);
        Check.due("first with 2", 2, () -> y.pair(1, 2));
        Check.due("not by 64 / 27", 1, () -> y.told(0));
        Check.due("by 256 / 81", 3, () -> Scene.drawAs(y, 3, 0));
    }

    private static void confirmedWhenAllPairsAre() {
        Check.about("Terms: CONFIRMED when all pairs are");
        PollAudit x = Scene.poll(4, 4, 4, 1, 0);
        x.set(0, 2);
        x.fraction(0, 2, 3);
        x.start(false, false);
        Check.due("pairs of the first", 1, () -> Scene.drawAs(x, 0, 0));
        Check.due("two are sure", 2, () -> x.told(9));
        Check.due("pairs of the second", 3, () -> Scene.drawAs(x, 1, 1));
        Check.due("four are sure", 4, () -> x.told(9));
        int[] with = {1, 1, 2, 2};
        for (int k = 0; k < 4; k++) {
            int n = k;
            Check.due("sure with", with[n], () -> x.pair(n, 2));
        }
    }

    private static void noVotesForTheLoser() {
        Check.about("Terms: times 2 v(l) / (v(w) + v(l)), for v(l) 0");
        PollAudit x = Scene.poll(4, 4, 0);
        x.fraction(0, 1, 2);
        x.start(false, false);
        Check.due("for the loser", 1, () -> Scene.drawAs(x, 0, 1));
        Scene.shows(x, 0, 0, 0, 1);
        Check.due("for the winner", 1, () -> Scene.drawAs(x, 1, 0));
        Scene.shows(x, 0, 0, 0, 1);
        x.again();
        x.start(false, false);
        Check.due("2 is enough", 3, () -> Scene.drawAs(x, 1, 0));
        Scene.shows(x, 0, 0, 2, 1);
    }

    /** N 10, M 4, gamma 2: a draw as recorded makes P times 9 / 10; E is at most 2 / 4. */
    private static PollAudit comparing(int limitUp, int limitLow) {
        PollAudit x = Scene.poll(10, 7, 3, 1);
        x.fraction(1, 2, 1);
        x.fraction(0, limitUp, limitLow);
        x.record(0, 5, 0);
        x.record(5, 3, 1);
        x.start(true, false);
        return x;
    }

    private static void pAtTheLimit() {
        Check.about("Terms: CONFIRMED when P is p / q or less");
        int[][] limits = {{81, 100, 2}, {810000, 1000000, 2}, {810001, 1000000, 2}, {809999, 1000000, 3},
            {9, 10, 1}, {899999, 1000000, 2}, {900001, 1000000, 1}, {729, 1000, 3}};
        for (int[] limit : limits) {
            PollAudit x = comparing(limit[0], limit[1]);
            Scene.shows(x, 1, 0, 1, 1);
            for (int draw = 1; draw <= limit[2]; draw++) {
                int n = draw;
                String name = "limit " + limit[0] + " / " + limit[1] + ", draw " + n;
                Check.due(name, n == limit[2] ? 3 : 1, () -> Scene.drawAs(x, n, 0));
            }
            Check.due("none is sure by comparing", 0, () -> x.told(9));
            Check.due("no draw made it sure", -1, () -> x.pair(0, 2));
            Scene.shows(x, 0, 0, 1, 1);
        }
    }

    /** P behind one draw of a ballot with the record 0, 1 or NONE (0, 5, 8), seen as the candidate. */
    private static void errors() {
        Check.about("Terms: E, the greatest, over all pairs, of (r(w) - s(w) - r(l) + s(l)) / (v(w) - v(l))");
        // The pairs are 0 over 1 with 4, and 0 over 2 with 6; P is 9 / 10 over 1 - E.
        error(0, 0, 9, 10);
        error(0, 1, 9, 5);
        error(0, 2, 27, 20);
        error(0, -1, 6, 5);
        error(5, 1, 9, 10);
        error(5, 0, 27, 35);
        error(5, 2, 27, 25);
        error(5, -1, 9, 10);
        error(8, -1, 9, 10);
        error(8, 0, 27, 35);
        error(8, 1, 6, 5);
        error(8, 2, 27, 25);
    }

    private static void error(int ballot, int seen, int up, int low) {
        PollAudit x = comparing(1, 10);
        Check.due("draw of " + ballot + " seen as " + seen, 1, () -> Scene.drawAs(x, ballot, seen));
        Scene.shows(x, 1, 0, up, low);
    }

    private static void errorOfABlank() {
        Check.about("Terms: E is 0 for a BLANK");
        PollAudit x = comparing(81, 100);
        Check.due("blank", -2, () -> Scene.drawBallot(x, 10));
        Scene.shows(x, 1, 0, 9, 10);
        Check.due("blank", -2, () -> Scene.drawBallot(x, 15));
        Check.due("confirmed by blanks", 3, () -> x.told(0));
        Scene.shows(x, 1, 0, 81, 100);
        Check.due("none is seen", 0, () -> x.told(5));
    }

    /** One winner over a near and a far loser, N 100, gamma 2, M 2: P is 199 / 200 over 1 - E / 2. */
    private static void greatestError() {
        Check.about("Terms: the greatest of E, also when all are below 0");
        PollAudit x = Scene.poll(100, 50, 48, 10);
        x.fraction(1, 2, 1);
        x.start(true, false);
        // -1 / 2 and -1 / 40: the greatest is -1 / 40.
        Scene.drawAs(x, 0, 0);
        Scene.shows(x, 1, 0, 199 * 2, 405);
        x.again();
        x.record(0, 1, 2);
        x.start(true, false);
        // -1 / 2 and -2 / 40.
        Scene.drawAs(x, 0, 0);
        Scene.shows(x, 1, 0, 199, 205);
        x.again();
        x.record(0, 1, 1);
        x.start(true, false);
        // -1 / 2 and 1 / 40.
        Scene.drawAs(x, 0, 2);
        Scene.shows(x, 1, 0, 199 * 2, 395);
    }

    private static void leastMargin() {
        Check.about("Terms: M is the least v(w) - v(l), of whatever pair");
        PollAudit x = Scene.poll(20, 2, 16, 10);
        x.fraction(1, 2, 1);
        x.start(true, false);
        Scene.shows(x, 3, 0, 3, 10);
        Scene.drawBallot(x, 31);
        // 1 - 6 / 80.
        Scene.shows(x, 1, 0, 37, 40);
        PollAudit y = Scene.poll(100, 10, 50, 48, 60);
        y.set(0, 2);
        y.start(true, false);
        Scene.shows(y, 3, 0, 1, 50);
        y.again();
        y.set(0, 3);
        y.start(true, false);
        Scene.shows(y, 3, 0, 19, 50);
    }

    private static void gammaNextToOne() {
        Check.about("Terms: 1 - E M / (2 GAMMA), as small as it can be");
        PollAudit x = Scene.poll(4, 3, 1);
        x.fraction(1, 1000000, 999999);
        x.record(0, 4, 0);
        x.start(true, false);
        Scene.drawAs(x, 0, 1);
        // 1 - 999999 / 4000000 over 1 / 1000000.
        Scene.shows(x, 1, 0, 3000001, 4);
        Check.due("it comes back", 1, () -> Scene.drawAs(x, 1, 0));
        PollAudit y = Scene.poll(20000, 20000, 19999);
        y.fraction(1, 1000000, 999999);
        y.record(0, 20000, 0);
        y.start(true, false);
        Scene.drawAs(y, 0, 1);
        // 1 - 999999 / 40000000000 over 1 / 1000000.
        Scene.shows(y, 1, 0, 39999000001L, 40000L);
    }

    private static void marginOfAllBallots() {
        Check.about("Terms: U = 2 GAMMA N / M, for M = N");
        PollAudit x = Scene.poll(5, 5, 0);
        x.record(0, 5, 0);
        x.start(true, false);
        Scene.shows(x, 3, 0, 1, 1);
        Scene.drawAs(x, 0, 0);
        // 1 - 10 / 22.
        Scene.shows(x, 1, 0, 6, 11);
        Scene.drawAs(x, 1, -1);
        // E is 1 / 5: over 1 - 10 / 22.
        Scene.shows(x, 1, 0, 6, 11);
        Scene.drawAs(x, 2, 1);
        // E is 2 / 5: over 1 - 20 / 22.
        Scene.shows(x, 1, 0, 36, 11);
    }

    private static void lookedAtBehindEachDraw() {
        Check.about("Terms: Looked at behind each draw");
        PollAudit x = comparing(1, 2);
        for (int draw = 1; draw <= 6; draw++) {
            Scene.drawBallot(x, 15);
            Check.due("drawing", 1, () -> x.told(0));
        }
        Check.due("a draw with too few coins", -1, () -> x.draw());
        Scene.drawBallot(x, 15);
        Check.due("0.9 to the 7th is below 1 / 2", 3, () -> x.told(0));
        Check.due("draws", 7, () -> x.told(4));
        Check.about("3: a ballot that is yet to be SEEN does not count");
        PollAudit y = comparing(9, 10);
        Scene.drawBallot(y, 0);
        Scene.shows(y, 1, 0, 1, 1);
        Check.due("to be seen", 2, () -> y.told(0));
        Check.due("confirmed", 3, () -> y.see(0));
    }

    private static void theCap() {
        Check.about("Terms: When it is not CONFIRMED with CAP draws, a FULL COUNT is wanted");
        PollAudit x = Scene.poll(10, 7, 3, 1);
        x.set(1, 2);
        x.fraction(0, 81, 100);
        x.fraction(1, 2, 1);
        x.record(0, 10, 0);
        x.start(true, false);
        Check.due("one draw of two", 1, () -> Scene.drawAs(x, 0, 0));
        Check.due("confirmed with the last draw", 3, () -> Scene.drawAs(x, 1, 0));
        x.again();
        x.set(1, 1);
        x.start(true, false);
        Check.due("not with one draw of one", 4, () -> Scene.drawAs(x, 0, 0));
        Check.stage("no draw more", () -> x.draw());
        x.again();
        x.fraction(0, 9, 10);
        x.start(true, false);
        Check.due("with one draw of one", 3, () -> Scene.drawAs(x, 0, 0));
        PollAudit y = Scene.small();
        y.set(1, 1);
        y.start(false, false);
        Check.due("polling, one draw of one", 4, () -> Scene.drawAs(y, 0, 0));
    }

    /** Three candidates of 5 ballots, with a full count wanted. */
    private static PollAudit wanted() {
        PollAudit x = Scene.small();
        x.candidate(0);
        x.set(1, 1);
        x.start(false, false);
        Scene.drawAs(x, 0, 1);
        return x;
    }

    private static void countedRange() {
        PollAudit x = wanted();
        Check.about("12: IndexOutOfBoundsException");
        for (int wrong : new int[] {-1, -2, 3, LEAST, MOST}) {
            Check.none("count of " + wrong, () -> x.counted(wrong, 0));
            Check.none("a wrong count of " + wrong, () -> x.counted(wrong, 6));
        }
        Check.about("12: IllegalArgumentException: votes not 0 .. N");
        for (int wrong : new int[] {-1, 6, LEAST, MOST}) {
            Check.bad("count " + wrong, () -> x.counted(0, wrong));
        }
        Check.due("none is told", -1, () -> x.of(0, 3));
        Check.due("count N", 1, () -> x.counted(0, 5));
        Check.due("count 0", 2, () -> x.counted(2, 0));
        Check.due("N is told", 5, () -> x.of(0, 3));
        Check.due("0 is told", 0, () -> x.of(2, 3));
        Check.due("the other is not", -1, () -> x.of(1, 3));
    }

    private static void countedAnswers() {
        Check.about("12: how many candidates' counts are told; with the last one it is COUNTED");
        PollAudit x = wanted();
        Check.due("the first", 1, () -> x.counted(2, 1));
        Check.due("the second", 2, () -> x.counted(0, 3));
        Check.due("still wanted", 4, () -> x.told(0));
        Check.due("not right before", 0, () -> x.told(12));
        Check.due("the last", 3, () -> x.counted(1, 2));
        Check.due("counted", 5, () -> x.told(0));
        Check.due("right", 1, () -> x.told(12));
    }

    private static void countedLatest() {
        Check.about("12: the latest told counts");
        PollAudit x = wanted();
        Check.due("the first", 1, () -> x.counted(0, 0));
        Check.due("the same", 1, () -> x.counted(0, 4));
        Check.due("the latest", 4, () -> x.of(0, 3));
        Check.due("the second", 2, () -> x.counted(1, 5));
        Check.due("the second once more", 2, () -> x.counted(1, 3));
        Check.due("the first once more", 2, () -> x.counted(0, 4));
        Check.due("the last", 3, () -> x.counted(2, 0));
        Check.due("right by the latest", 1, () -> x.told(12));
        Check.about("12: IllegalStateException: with the last one it is COUNTED, no count more");
        Check.stage("the last once more", () -> x.counted(2, 5));
        Check.due("it stays", 0, () -> x.of(2, 3));
        Check.due("right stays", 1, () -> x.told(12));
    }

    private static void right() {
        Check.about("Terms: RIGHT if each winner has more than each loser");
        rightIs(1, 1, 0, 0);
        rightIs(1, 5, 4, 4);
        rightIs(0, 2, 2, 0);
        rightIs(0, 2, 0, 2);
        rightIs(0, 1, 2, 0);
        rightIs(0, 1, 0, 2);
        rightIs(0, 0, 0, 0);
        rightIs(0, 5, 5, 5);
    }

    private static void rightIs(int due, int... counts) {
        PollAudit x = wanted();
        for (int c = 0; c < counts.length; c++) {
            x.counted(c, counts[c]);
        }
        Check.due("right with " + Arrays.toString(counts), due, () -> x.told(12));
        Check.due("counted", 5, () -> x.told(0));
    }

    private static void rightOfManyPairs() {
        Check.about("Terms: RIGHT if each winner has more than each loser: with two winners, candidates 1 and 3");
        int[][] counts = {{1, 2, 1, 2, 1}, {0, 9, 4, 5, 3}, {2, 2, 1, 3, 1}, {1, 2, 1, 3, 2}, {1, 3, 2, 2, 1}, {0, 1, 5, 9, 0}};
        for (int i = 0; i < counts.length; i++) {
            PollAudit x = Scene.poll(9, 1, 5, 2, 4, 3);
            x.set(0, 2);
            x.set(1, 1);
            x.start(true, false);
            Scene.drawBallot(x, 15);
            for (int c = 0; c < 5; c++) {
                x.counted(c, counts[i][c]);
            }
            Check.due("count " + i, i < 2 ? 1 : 0, () -> x.told(12));
        }
    }

    private static void countedStages() {
        Check.about("12: IllegalStateException: no FULL COUNT is wanted");
        for (int stage = 0; stage < Scene.STAGES; stage++) {
            PollAudit x = Scene.at(stage, true, true);
            if (stage == 4) {
                Check.due("count", 1, () -> x.counted(1, 5));
            } else {
                Check.stage("count at stage " + stage, () -> x.counted(1, 5));
                Check.bad("count 6 at stage " + stage, () -> x.counted(1, 6));
                Check.none("count of 2 at stage " + stage, () -> x.counted(2, 6));
            }
        }
    }
}
