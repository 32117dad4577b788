/** Promises 14 to 17: what is told of the audit, of a candidate, of a pair, of a ballot. */
final class ToldTest {
    private static final int LEAST = Integer.MIN_VALUE, MOST = Integer.MAX_VALUE;

    public static void main(String[] args) {
        toldStage();
        toldWhat();
        toldDraws();
        toldPairs();
        toldRight();
        ofWhat();
        ofWinner();
        ofFullCount();
        pairOrder();
        pairRange();
        mostPairs();
        ballotRange();
        ballotBatch();
        ballotSeen();
        Check.end();
    }

    private static void toldStage() {
        Check.about("14: 0 the stage");
        for (int stage = 0; stage < Scene.STAGES; stage++) {
            for (int kind = 0; kind < 4; kind++) {
                PollAudit x = Scene.at(stage, (kind & 1) != 0, (kind & 2) != 0);
                int n = stage;
                Check.due("stage", n, () -> x.told(0));
                Check.due("the ballot to be SEEN (NONE)", n == 2, () -> x.told(10) >= 0);
            }
        }
    }

    private static void toldWhat() {
        Check.about("14: IndexOutOfBoundsException");
        PollAudit x = new PollAudit();
        for (int wrong : new int[] {-1, 13, LEAST, MOST}) {
            Check.none("told(" + wrong + ")", () -> x.told(wrong));
        }
        Check.due("told(12)", 0, () -> x.told(12));
        Check.about("14: 1 candidates, 2 batches, 3 N, 7 coins not drawn");
        x.candidate(3);
        x.batch(7);
        x.batch(6);
        x.coins(0, 9);
        Check.due("candidates", 1, () -> x.told(1));
        Check.due("batches", 2, () -> x.told(2));
        Check.due("N", 13, () -> x.told(3));
        Check.due("coins", 9, () -> x.told(7));
        x.candidate(2);
        x.start(false, false);
        x.draw();
        Check.due("coins not drawn", 5, () -> x.told(7));
    }

    private static void toldDraws() {
        PollAudit x = Scene.small();
        x.start(false, false);
        Scene.drawBallot(x, 2);
        Check.about("14: 4 draws (also one whose ballot is yet to be SEEN), 5 different ballots seen");
        draws(x, 1, 0, 0, 2);
        x.see(-1);
        draws(x, 1, 1, 0, -1);
        Scene.drawBallot(x, 2);
        draws(x, 2, 1, 0, -1);
        Scene.drawBallot(x, 5);
        Check.about("14: 6 BLANK ones drawn");
        draws(x, 3, 1, 1, -1);
        Scene.drawBallot(x, 0);
        Check.about("14: 10 the ballot to be SEEN (NONE)");
        draws(x, 4, 1, 1, 0);
        x.see(0);
        draws(x, 4, 2, 1, -1);
    }

    private static void draws(PollAudit x, int draws, int different, int blanks, int toBeSeen) {
        Check.due("draws", draws, () -> x.told(4));
        Check.due("different", different, () -> x.told(5));
        Check.due("blanks", blanks, () -> x.told(6));
        Check.due("to be seen", toBeSeen, () -> x.told(10));
    }

    private static void toldPairs() {
        Check.about("14: 8 pairs (0 while SETTING), 9 sure ones (polling)");
        PollAudit x = Scene.poll(4, 4, 1, 0);
        x.fraction(0, 3, 5);
        Check.due("pairs while setting", 0, () -> x.told(8));
        x.start(false, false);
        Check.due("pairs", 2, () -> x.told(8));
        Check.due("none is sure", 0, () -> x.told(9));
        Scene.drawAs(x, 0, 0);
        Check.due("one is sure, by 2, not by 8 / 5", 1, () -> x.told(9));
        Scene.drawAs(x, 1, 0);
        Check.due("both are sure", 2, () -> x.told(9));
        x.again();
        Check.due("pairs while setting again", 0, () -> x.told(8));
        Check.due("none is sure while setting", 0, () -> x.told(9));
        x.start(true, false);
        Check.due("confirmed when comparing", 3, () -> Scene.drawAs(x, 0, 0));
        Check.due("pairs when comparing", 2, () -> x.told(8));
        Check.due("none is sure when comparing", 0, () -> x.told(9));
    }

    private static void toldRight() {
        Check.about("14: 12 whether the count was RIGHT (1; 0 else, or before)");
        for (int stage = 0; stage < Scene.STAGES; stage++) {
            PollAudit x = Scene.at(stage, false, false);
            Check.due("at stage " + stage, stage == 5 ? 1 : 0, () -> x.told(12));
            if (stage == 4) {
                x.counted(0, 5);
                Check.due("with one count", 0, () -> x.told(12));
                x.counted(1, 5);
                Check.due("with equal counts", 0, () -> x.told(12));
            }
            x.again();
            Check.due("behind again", 0, () -> x.told(12));
        }
    }

    private static void ofWhat() {
        Check.about("15: IndexOutOfBoundsException");
        PollAudit x = Scene.small();
        for (int wrong : new int[] {-1, -2, 2, LEAST, MOST}) {
            Check.none("of(" + wrong + ", 0)", () -> x.of(wrong, 0));
        }
        for (int wrong : new int[] {-1, 4, LEAST, MOST}) {
            Check.none("of(1, " + wrong + ")", () -> x.of(1, wrong));
        }
        Check.about("15: 0 votes, 2 how many draws were for it");
        Check.due("votes of 0", 3, () -> x.of(0, 0));
        Check.due("votes of 1", 1, () -> x.of(1, 0));
        x.start(false, false);
        Scene.drawAs(x, 0, 1);
        Scene.drawBallot(x, 0);
        Scene.drawAs(x, 1, -1);
        Scene.drawBallot(x, 7);
        Scene.drawBallot(x, 2);
        Check.due("draws for 0", 0, () -> x.of(0, 2));
        Check.due("draws for 1", 2, () -> x.of(1, 2));
        x.see(0);
        Check.due("draws for 0, when it is seen", 1, () -> x.of(0, 2));
    }

    private static void ofWinner() {
        Check.about("15: 1 whether it is a winner (0 while SETTING)");
        for (int stage = 0; stage < Scene.STAGES; stage++) {
            PollAudit x = Scene.at(stage, false, false);
            Check.due("the winner at stage " + stage, stage == 0 ? 0 : 1, () -> x.of(0, 1));
            Check.due("the loser at stage " + stage, 0, () -> x.of(1, 1));
            x.again();
            Check.due("behind again", 0, () -> x.of(0, 1));
        }
    }

    private static void ofFullCount() {
        Check.about("15: 3 the full count (NONE)");
        for (int stage = 0; stage < Scene.STAGES; stage++) {
            PollAudit x = Scene.at(stage, true, false);
            Check.due("of 0 at stage " + stage, stage == 5 ? 3 : -1, () -> x.of(0, 3));
            Check.due("of 1 at stage " + stage, stage == 5 ? 1 : -1, () -> x.of(1, 3));
        }
    }

    private static void pairOrder() {
        Check.about("16: Of pair k (by winners, then by losers, by their numbers)");
        PollAudit x = Scene.poll(50, 5, 40, 6, 41, 7, 42);
        x.set(0, 3);
        x.start(false, false);
        Check.due("9 pairs", 9, () -> x.told(8));
        for (int k = 0; k < 9; k++) {
            int n = k;
            Check.due("winner of " + n, 1 + 2 * (n / 3), () -> x.pair(n, 0));
            Check.due("loser of " + n, 2 * (n % 3), () -> x.pair(n, 1));
            Check.about("16: 2 with which draw it was sure (NONE)");
            Check.due("not sure " + n, -1, () -> x.pair(n, 2));
        }
    }

    private static void pairRange() {
        Check.about("16: IndexOutOfBoundsException: none while SETTING");
        PollAudit x = Scene.small();
        for (int what = 0; what < 3; what++) {
            int w = what;
            Check.none("pair(0, " + w + ") while setting", () -> x.pair(0, w));
        }
        x.start(false, false);
        Check.due("winner", 0, () -> x.pair(0, 0));
        Check.due("loser", 1, () -> x.pair(0, 1));
        Check.due("sure", -1, () -> x.pair(0, 2));
        for (int wrong : new int[] {-1, 1, LEAST, MOST}) {
            Check.none("pair(" + wrong + ", 0)", () -> x.pair(wrong, 0));
        }
        for (int wrong : new int[] {-1, 3, LEAST, MOST}) {
            Check.none("pair(0, " + wrong + ")", () -> x.pair(0, wrong));
        }
        x.again();
        Check.none("behind again", () -> x.pair(0, 0));
    }

    private static void mostPairs() {
        Check.about("16: 8 candidates of whom 4 win have 16 pairs");
        PollAudit x = Scene.poll(50, 5, 40, 6, 41, 7, 42, 8, 43);
        x.set(0, 4);
        x.fraction(0, 3, 4);
        x.start(false, false);
        Check.due("16 pairs", 16, () -> x.told(8));
        Check.none("pair 16", () -> x.pair(16, 0));
        Check.due("the last winner", 7, () -> x.pair(15, 0));
        Check.due("the last loser", 6, () -> x.pair(15, 1));
        for (int c = 1; c < 7; c += 2) {
            Scene.drawAs(x, c, c);
        }
        Check.due("12 are sure", 12, () -> x.told(9));
        Check.due("the last is sure", 3, () -> Scene.drawAs(x, 7, 7));
        Check.due("16 are sure", 16, () -> x.told(9));
        for (int k = 0; k < 16; k++) {
            int n = k;
            Check.due("pair " + n + " is sure with", 1 + n / 4, () -> x.pair(n, 2));
        }
        Scene.shows(x, 2, 15, 43, 51);
        Scene.shows(x, 0, 15, 86, 51);
    }

    private static void ballotRange() {
        Check.about("17: IndexOutOfBoundsException");
        PollAudit none = new PollAudit();
        Check.none("of no ballots", () -> none.ballot(0, 0));
        PollAudit x = Scene.small();
        for (int wrong : new int[] {-1, -2, 5, LEAST, MOST}) {
            for (int what = 0; what < 4; what++) {
                int w = what;
                Check.none("ballot(" + wrong + ", " + w + ")", () -> x.ballot(wrong, w));
            }
        }
        for (int wrong : new int[] {-1, 4, LEAST, MOST}) {
            Check.none("ballot(0, " + wrong + ")", () -> x.ballot(0, wrong));
        }
        Check.due("the last", 1, () -> x.ballot(4, 0));
        PollAudit y = Scene.poll(20000);
        Check.due("ballot 19999", 4, () -> y.ballot(19999, 0));
        Check.none("ballot 20000", () -> y.ballot(20000, 0));
    }

    private static void ballotBatch() {
        Check.about("17: 0 its batch");
        PollAudit x = new PollAudit();
        int[] sizes = {1, 2, 3, 1, 1};
        int[] batches = {0, 1, 1, 2, 2, 2, 3, 4};
        for (int size : sizes) {
            x.batch(size);
        }
        for (int b = 0; b < batches.length; b++) {
            int n = b;
            Check.due("batch of " + n, batches[n], () -> x.ballot(n, 0));
        }
    }

    private static void ballotSeen() {
        Check.about("17: 2 as what it was SEEN (NONE; BLANK if it was not)");
        PollAudit x = Scene.small();
        x.record(0, 5, 1);
        Check.due("while setting", -2, () -> x.ballot(1, 2));
        x.start(true, false);
        Scene.drawBallot(x, 1);
        Check.due("yet to be seen", -2, () -> x.ballot(1, 2));
        Check.about("17: 3 how often it was drawn (also when it is yet to be SEEN)");
        Check.due("drawn, yet to be seen", 1, () -> x.ballot(1, 3));
        x.see(-1);
        Check.due("as none", -1, () -> x.ballot(1, 2));
        Scene.drawBallot(x, 1);
        Check.due("drawn twice", 2, () -> x.ballot(1, 3));
        Scene.drawAs(x, 4, 0);
        Check.due("as 0", 0, () -> x.ballot(4, 2));
        Check.due("once", 1, () -> x.ballot(4, 3));
        Check.due("another is not seen", -2, () -> x.ballot(0, 2));
        Check.due("another was not drawn", 0, () -> x.ballot(0, 3));
        Scene.drawBallot(x, 7);
        Check.due("a blank is none of them", 0, () -> x.ballot(0, 3));
        Check.about("17: 1 its record, whatever it was seen as");
        Check.due("record", 1, () -> x.ballot(4, 1));
    }
}
