import java.math.BigInteger;

/** Part 2 of the terms, and promises 10, 11 and 13: draws by coins and by the seed, seeing, beginning again. */
final class DrawTest {
    private static final int LEAST = Integer.MIN_VALUE, MOST = Integer.MAX_VALUE;

    public static void main(String[] args) throws Exception {
        coinsADraw();
        noCoinsForOneBallot();
        highestBitFirst();
        blankFromNOn();
        tooFewCoins();
        bySeed();
        bySeedOfAllLengths();
        bySeedOfOneBallot();
        toBeSeen();
        countsAtOnce();
        blankCountsAtOnce();
        blankAtTheCap();
        drawStages();
        seeRange();
        seeAnswersTheStage();
        seeStages();
        everyBallotDifferent();
        againAtEachStage();
        againKeepsWhatWasSet();
        againBeginsAnew();
        againForgets();
        Check.end();
    }

    private static void coinsADraw() {
        Check.about("Terms: K is the least number with 2 to the K not below N");
        for (int k = 0; k <= 14; k++) {
            int n = 1 << k;
            int coins = k;
            PollAudit x = Scene.poll(n);
            Check.due("K of " + n, coins, () -> x.told(11));
            x.batch(1);
            Check.due("K of " + (n + 1), coins + 1, () -> x.told(11));
            if (n > 2) {
                PollAudit y = Scene.poll(n - 1);
                Check.due("K of " + (n - 1), coins, () -> y.told(11));
            }
        }
        PollAudit x = Scene.poll(20000);
        Check.due("K of 20000", 15, () -> x.told(11));
        Check.about("14: K (0 without ballots)");
        PollAudit y = new PollAudit();
        Check.due("K of 0", 0, () -> y.told(11));
    }

    private static void noCoinsForOneBallot() {
        Check.about("Terms: a draw takes K coins: none of 1 ballot");
        PollAudit x = Scene.poll(1, 1, 0);
        x.start(false, false);
        Check.due("draw with no coins", 0, () -> x.draw());
        x.see(-1);
        x.coins(1, 1);
        Check.due("draw with a coin", 0, () -> x.draw());
        Check.due("the coin stays", 1, () -> x.told(7));
        Check.due("draws", 2, () -> x.told(4));
    }

    private static void highestBitFirst() {
        Check.about("Terms: a draw takes K coins, the first one the highest bit");
        PollAudit x = Scene.poll(2, 2, 1);
        x.start(false, false);
        Check.due("1 of 2", 1, () -> Scene.drawBallot(x, 1));
        x.see(-1);
        Check.due("0 of 2", 0, () -> Scene.drawBallot(x, 0));
        PollAudit y = Scene.poll(5, 2, 1);
        y.start(false, false);
        y.coins(1, 1);
        y.coins(0, 1);
        y.coins(0, 1);
        Check.due("100", 4, () -> y.draw());
        y.see(-1);
        y.coins(0b001011, 6);
        Check.due("001", 1, () -> y.draw());
        y.see(-1);
        Check.due("011", 3, () -> y.draw());
    }

    private static void blankFromNOn() {
        Check.about("Terms: From N on it is BLANK");
        lastAndFirstBlank(3, 2);
        lastAndFirstBlank(5, 3);
        lastAndFirstBlank(7, 3);
        lastAndFirstBlank(20000, 15);
        lastAndFirstBlank(16385, 15);
        Check.about("Terms: with N 2 to the K there is no BLANK");
        PollAudit x = Scene.poll(8, 2, 1);
        x.start(false, false);
        Check.due("7 of 8", 7, () -> Scene.drawBallot(x, 7));
        Check.due("it is to be seen", 2, () -> x.told(0));
    }

    private static void lastAndFirstBlank(int ballots, int coins) {
        PollAudit x = Scene.poll(ballots, 2, 1);
        x.start(false, false);
        Check.due("the last of " + ballots, ballots - 1, () -> Scene.drawBallot(x, ballots - 1));
        x.see(-1);
        Check.due("N itself, of " + ballots, -2, () -> Scene.drawBallot(x, ballots));
        Check.due("all coins 1, of " + ballots, -2, () -> Scene.drawBallot(x, (1 << coins) - 1));
        Check.due("blanks", 2, () -> x.told(6));
        Check.due("all coins are drawn", 0, () -> x.told(7));
    }

    private static void tooFewCoins() {
        Check.about("10: NONE, and nothing is drawn, if there are too few coins");
        PollAudit x = Scene.small();
        x.start(false, false);
        for (int coins = 0; coins < 3; coins++) {
            int n = coins;
            String before = Scene.read(x);
            Check.due("draw with " + n + " coins", -1, () -> x.draw());
            Check.same("nothing is drawn", before, Scene.read(x));
            x.coins(1, 1);
        }
        Check.due("draw with 3 coins", -2, () -> x.draw());
        Check.about("10: a draw that was NONE is none for THE CAP");
        PollAudit y = Scene.small();
        y.set(1, 1);
        y.start(false, false);
        y.draw();
        y.draw();
        Check.due("stage", 1, () -> y.told(0));
        Check.due("the one draw", 4, () -> Scene.drawAs(y, 0, -1));
        Check.stage("draw at the cap, with no coins", () -> y.draw());
    }

    private static void bySeed() {
        Check.about("Terms: draw i (from 1 on) is the digest .. modulo N");
        PollAudit x = Scene.poll(17, 9, 5);
        x.digit(1);
        x.digit(2);
        x.coins(5, 9);
        x.start(false, true);
        int[] due = {7, 15, 16, 8, 11, 14, 13, 10, 0, 7, 4, 10, 10, 4};
        for (int i = 0; i < due.length; i++) {
            int n = i;
            Check.due("draw " + (n + 1), due[n], () -> x.draw());
            if (x.told(0) == 2) {
                x.see(-1);
            }
        }
        Check.due("no coins are drawn", 9, () -> x.told(7));
        Check.due("no blanks", 0, () -> x.told(6));
        Check.due("different", 10, () -> x.told(5));
    }

    private static void bySeedOfAllLengths() throws Exception {
        Check.about("Terms: THE SEED, a row of 1 to 20 digits; i in decimal");
        for (String seed : new String[] {"7", "07", "007", "70", "99999999999999999999", "00000000000000000000"}) {
            for (int ballots : new int[] {2, 16384, 19997, 20000}) {
                drawsOfSeed(seed, ballots, 120);
            }
        }
        drawsOfSeed("31415926535897932384", 20000, 200);
    }

    private static void drawsOfSeed(String seed, int ballots, int draws) throws Exception {
        PollAudit x = Scene.poll(ballots, 2, 1);
        x.set(1, 200);
        for (char digit : seed.toCharArray()) {
            x.digit(digit - '0');
        }
        x.start(false, true);
        for (int i = 1; i <= draws; i++) {
            BigInteger number = new BigInteger(1, ShownTest.digestOf(seed + "," + i));
            int due = number.mod(BigInteger.valueOf(ballots)).intValue();
            Check.due("draw " + i + " of " + seed, due, () -> x.draw());
            Check.answer(() -> x.see(-1));
        }
    }

    private static void bySeedOfOneBallot() {
        Check.about("Terms: modulo N, of 1 ballot");
        PollAudit x = Scene.poll(1, 1, 0);
        x.digit(3);
        x.start(false, true);
        Check.due("draw 1", 0, () -> x.draw());
        x.see(-1);
        Check.due("draw 2", 0, () -> x.draw());
        Check.due("drawn twice", 2, () -> x.ballot(0, 3));
    }

    private static void toBeSeen() {
        Check.about("10: else it is to be SEEN (2)");
        PollAudit x = Scene.small();
        x.start(false, false);
        Check.due("ballot 3", 3, () -> Scene.drawBallot(x, 3));
        Check.due("stage", 2, () -> x.told(0));
        Check.due("it is to be seen", 3, () -> x.told(10));
        Check.due("it is a draw", 1, () -> x.told(4));
        Check.due("it is not seen", 0, () -> x.told(5));
        Check.due("it was drawn once", 1, () -> x.ballot(3, 3));
        Check.due("as what it was seen", -2, () -> x.ballot(3, 2));
        Scene.shows(x, 0, 0, 1, 1);
        Check.about("11: What the ballot that was drawn is SEEN as: it counts");
        Check.due("see", 1, () -> x.see(0));
        Check.due("none is to be seen", -1, () -> x.told(10));
        Check.due("it is seen", 1, () -> x.told(5));
        Check.due("as what it was seen", 0, () -> x.ballot(3, 2));
        Check.due("for the winner", 1, () -> x.of(0, 2));
        Scene.shows(x, 0, 0, 3, 2);
    }

    private static void countsAtOnce() {
        Check.about("10: When it was seen before it counts at once; what was seen counts each time");
        PollAudit x = Scene.small();
        x.fraction(0, 8, 27);
        x.start(false, false);
        Scene.drawAs(x, 3, 0);
        Scene.drawAs(x, 2, -1);
        Check.due("ballot 3 again", 3, () -> Scene.drawBallot(x, 3));
        Check.due("stage", 1, () -> x.told(0));
        Check.due("draws for it", 2, () -> x.of(0, 2));
        Check.due("times", 2, () -> x.ballot(3, 3));
        Check.due("different", 2, () -> x.told(5));
        Scene.shows(x, 0, 0, 9, 4);
        Check.due("one seen as none, again", 2, () -> Scene.drawBallot(x, 2));
        Check.due("draws", 4, () -> x.told(4));
        Scene.shows(x, 0, 0, 9, 4);
        Check.due("ballot 3 for the third time", 3, () -> Scene.drawBallot(x, 3));
        Check.due("it confirms at once", 3, () -> x.told(0));
        Check.due("sure with draw 5", 5, () -> x.pair(0, 2));
        Check.about("10: seen before, at the cap");
        PollAudit y = Scene.small();
        y.set(1, 2);
        y.start(false, false);
        Scene.drawAs(y, 0, 1);
        Scene.drawBallot(y, 0);
        Check.due("a full count is wanted", 4, () -> y.told(0));
        Scene.shows(y, 0, 0, 1, 4);
        Check.due("draws for the loser", 2, () -> y.of(1, 2));
    }

    private static void blankCountsAtOnce() {
        Check.about("10: or is BLANK, it counts at once");
        PollAudit x = Scene.small();
        x.start(false, false);
        Check.due("a blank", -2, () -> Scene.drawBallot(x, 6));
        Check.due("stage", 1, () -> x.told(0));
        Check.due("draws", 1, () -> x.told(4));
        Check.due("blanks", 1, () -> x.told(6));
        Check.due("none is seen", 0, () -> x.told(5));
        Check.due("none is to be seen", -1, () -> x.told(10));
        Check.due("none for the winner", 0, () -> x.of(0, 2));
        Check.due("none for the loser", 0, () -> x.of(1, 2));
        Scene.shows(x, 0, 0, 1, 1);
        Check.stage("see a blank", () -> x.see(-1));
        Check.due("another blank", -2, () -> Scene.drawBallot(x, 6));
        Check.due("blanks", 2, () -> x.told(6));
    }

    private static void blankAtTheCap() {
        Check.about("10: a BLANK as the last draw of THE CAP");
        PollAudit x = Scene.small();
        x.set(1, 2);
        x.start(false, false);
        Scene.drawBallot(x, 5);
        Check.due("stage", 1, () -> x.told(0));
        Check.due("the last draw", -2, () -> Scene.drawBallot(x, 7));
        Check.due("a full count is wanted", 4, () -> x.told(0));
    }

    private static void drawStages() {
        Check.about("10: IllegalStateException: not DRAWING");
        for (int stage = 0; stage < Scene.STAGES; stage++) {
            for (int kind = 0; kind < 4; kind++) {
                PollAudit x = Scene.at(stage, (kind & 1) != 0, (kind & 2) != 0);
                if (stage == 1) {
                    Check.due("draw", true, () -> x.draw() >= 0);
                } else {
                    Check.stage("draw at stage " + stage, () -> x.draw());
                }
            }
        }
    }

    private static void seeRange() {
        Check.about("11: IndexOutOfBoundsException: neither a candidate nor NONE");
        for (int candidates = 2; candidates <= 8; candidates++) {
            PollAudit x = Scene.poll(16, 16, 0);
            for (int c = 2; c < candidates; c++) {
                x.candidate(0);
            }
            x.start(true, false);
            Scene.drawBallot(x, 0);
            for (int wrong : new int[] {-2, candidates, 8, LEAST, MOST}) {
                Check.none("see " + wrong + " of " + candidates, () -> x.see(wrong));
            }
            Check.due("still to be seen", 0, () -> x.told(10));
            Check.due("not seen", -2, () -> x.ballot(0, 2));
            int last = candidates - 1;
            Check.due("see " + last, 1, () -> x.see(last));
            Check.due("seen", last, () -> x.ballot(0, 2));
            Check.due("for it", 1, () -> x.of(last, 2));
            Scene.drawAs(x, 1, 0);
            Check.due("seen as the first", 0, () -> x.ballot(1, 2));
            Scene.drawAs(x, 2, -1);
            Check.due("seen as none", -1, () -> x.ballot(2, 2));
            Check.due("for the first", 1, () -> x.of(0, 2));
        }
    }

    private static void seeAnswersTheStage() {
        Check.about("11: the stage then");
        PollAudit x = Scene.small();
        x.set(1, 2);
        x.fraction(0, 4, 9);
        x.start(false, false);
        Check.due("drawing", 1, () -> Scene.drawAs(x, 0, 0));
        Check.due("confirmed, with the cap's last draw", 3, () -> Scene.drawAs(x, 1, 0));
        x.again();
        x.start(false, false);
        Check.due("drawing", 1, () -> Scene.drawAs(x, 0, 0));
        Check.due("a full count is wanted", 4, () -> Scene.drawAs(x, 1, -1));
    }

    private static void seeStages() {
        Check.about("11: IllegalStateException: none is to be SEEN");
        for (int stage = 0; stage < Scene.STAGES; stage++) {
            PollAudit x = Scene.at(stage, false, false);
            if (stage == 2) {
                Check.due("see", 1, () -> x.see(-1));
            } else {
                Check.stage("see at stage " + stage, () -> x.see(-1));
                Check.none("see a wrong one at stage " + stage, () -> x.see(2));
            }
        }
    }

    private static void everyBallotDifferent() {
        Check.about("Terms: THE CAP 200: as many different ballots are seen");
        PollAudit x = Scene.poll(256, 2, 1);
        x.set(1, 200);
        x.start(false, false);
        for (int i = 0; i < 50; i++) {
            x.coins(0x01010101 * 4 * i + 0x00010203, 32);
            for (int j = 0; j < 4; j++) {
                x.draw();
                x.see((i + j) % 3 - 1);
            }
        }
        Check.due("a full count is wanted", 4, () -> x.told(0));
        Check.due("different", 200, () -> x.told(5));
        Check.due("the first is seen", -1, () -> x.ballot(0, 2));
        Check.due("the last is seen", 0, () -> x.ballot(199, 2));
        Check.due("the last was drawn", 1, () -> x.ballot(199, 3));
        Check.due("the next is not seen", -2, () -> x.ballot(200, 2));
        Check.due("the next was not drawn", 0, () -> x.ballot(200, 3));
        x.again();
        Check.due("it is gone", -2, () -> x.ballot(199, 2));
        Check.due("not drawn", 0, () -> x.ballot(199, 3));
    }

    private static void againAtEachStage() {
        Check.about("13: SETTING again: what was drawn, seen, counted, and coins that were not drawn, are gone");
        for (int kind = 0; kind < 4; kind++) {
            for (int stage = 0; stage < Scene.STAGES; stage++) {
                PollAudit x = Scene.at(stage, (kind & 1) != 0, (kind & 2) != 0);
                x.again();
                int[] due = {0, 2, 2, 5, 0, 0, 0, 0, 0, 0, -1, 3, 0};
                for (int what = 0; what < due.length; what++) {
                    int w = what;
                    Check.due("told " + w + " behind again from stage " + stage, due[w], () -> x.told(w));
                }
                for (int c = 0; c < 2; c++) {
                    int n = c;
                    Check.due("no winner", 0, () -> x.of(n, 1));
                    Check.due("no draws for it", 0, () -> x.of(n, 2));
                    Check.due("no full count", -1, () -> x.of(n, 3));
                }
                for (int b = 0; b < 5; b++) {
                    int n = b;
                    Check.due("not seen", -2, () -> x.ballot(n, 2));
                    Check.due("not drawn", 0, () -> x.ballot(n, 3));
                }
                Check.none("no pair", () -> x.pair(0, 0));
                Check.stage("no draw", () -> x.draw());
            }
        }
    }

    private static void againKeepsWhatWasSet() throws Exception {
        Check.about("13: all that was set stays");
        PollAudit x = Scene.small();
        x.candidate(0);
        x.set(0, 2);
        x.set(1, 7);
        x.fraction(0, 1, 7);
        x.fraction(1, 2, 1);
        x.record(1, 3, 1);
        x.digit(4);
        x.coins(0, 9);
        x.start(false, false);
        Scene.drawAs(x, 0, 1);
        x.again();
        Check.due("candidates", 3, () -> x.told(1));
        Check.due("votes", 3, () -> x.of(0, 0));
        Check.due("batches", 2, () -> x.told(2));
        Check.due("N", 5, () -> x.told(3));
        Check.due("a record", 1, () -> x.ballot(3, 1));
        Check.due("no record", -1, () -> x.ballot(4, 1));
        Scene.shows(x, 4, 0, 1, 7);
        int due = ShownTest.digestOf("4,1")[5] & 255;
        Check.due("the seed", due, () -> x.digest(1, 5));
        Check.due("the seed's digits", 2, () -> x.digit(4));
        Check.due("the cap", 7, () -> x.set(1, 9));
        Check.due("W", 2, () -> x.set(0, 1));
        x.start(true, false);
        Scene.drawBallot(x, 7);
        Check.about("13: all that was set stays: GAMMA (N 5, M 2, gamma 2)");
        Scene.shows(x, 1, 0, 9, 10);
    }

    private static void againBeginsAnew() {
        Check.about("13: what was drawn and seen is gone: a second audit begins as the first one");
        PollAudit x = Scene.poll(17, 9, 5);
        x.digit(1);
        x.digit(2);
        x.start(false, true);
        Check.due("draw 1", 7, () -> x.draw());
        x.see(0);
        Check.due("draw 2", 15, () -> x.draw());
        x.again();
        x.start(false, true);
        Check.due("draw 1 again", 7, () -> x.draw());
        Check.due("it is to be seen", 2, () -> x.told(0));
        Check.due("T is 1", true, () -> x.show(0, 0));
        Scene.isShown("T", x, 1, 1);
        x.again();
        x.start(true, false);
        Check.due("P is 1", true, () -> x.show(1, 0));
        Scene.drawBallot(x, 31);
        Check.due("P is less", false, () -> x.show(1, 0));
        x.again();
        x.start(true, false);
        Scene.shows(x, 1, 0, 1, 1);
        x.again();
        x.start(false, false);
        Scene.shows(x, 1, 0, 1, 1);
        Check.about("13: what is SHOWN is nothing that was drawn, seen or counted");
        x.show(2, 0);
        x.again();
        Scene.isShown("what is shown", x, 9, 14);
        Check.about("13: coins that were not drawn are gone");
        x.coins(31, 4);
        x.again();
        Check.due("no coins", 0, () -> x.told(7));
        x.start(false, false);
        x.coins(1, 1);
        Check.due("too few", -1, () -> x.draw());
    }

    private static void againForgets() {
        PollAudit x = Scene.small();
        x.set(1, 3);
        x.start(false, false);
        Scene.drawBallot(x, 7);
        Scene.drawAs(x, 0, 1);
        Scene.drawBallot(x, 0);
        x.counted(0, 5);
        x.again();
        Check.about("13: what was drawn is gone: a BLANK too");
        Check.due("no blanks", 0, () -> x.told(6));
        x.start(false, false);
        Check.due("no blanks behind the start", 0, () -> x.told(6));
        Check.about("13: what was drawn is gone: how often a ballot was");
        Scene.drawBallot(x, 0);
        Check.due("drawn once", 1, () -> x.ballot(0, 3));
        Check.due("for the loser", 0, () -> x.of(1, 2));
        x.see(1);
        Check.due("once for the loser", 1, () -> x.of(1, 2));
        Scene.drawBallot(x, 6);
        Check.due("one blank", 1, () -> x.told(6));
        Check.due("the third draw", 4, () -> Scene.drawAs(x, 1, -1));
        Check.about("13: what was counted is gone: how many counts are told");
        Check.due("none is told", -1, () -> x.of(0, 3));
        Check.due("the first count", 1, () -> x.counted(1, 1));
        Check.due("still wanted", 4, () -> x.told(0));
        Check.due("the second count", 2, () -> x.counted(0, 2));
        Check.due("right", 1, () -> x.told(12));
        x.again();
        Check.about("13: what was counted is gone: whether it was RIGHT");
        Check.due("not right", 0, () -> x.told(12));
        x.start(false, false);
        Check.due("not right behind the start", 0, () -> x.told(12));
        Check.due("no count behind the start", -1, () -> x.of(1, 3));
    }
}
