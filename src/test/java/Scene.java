import java.math.BigInteger;

/** Objects to begin a test with, and all that can be read of one. */
final class Scene {
    static final int STAGES = 6;

    private Scene() {
    }

    /** So many ballots, in as few batches as can be, and candidates with these votes. */
    static PollAudit poll(int ballots, int... votes) {
        PollAudit x = new PollAudit();
        addBallots(x, ballots);
        for (int v : votes) {
            x.candidate(v);
        }
        return x;
    }

    static void addBallots(PollAudit x, int ballots) {
        for (int left = ballots; left > 0; left -= 4000) {
            x.batch(Math.min(left, 4000));
        }
    }

    /** 5 ballots in batches of 3 and 2, candidates with 3 and 1 votes: T goes by 3 / 2 and by 1 / 2. */
    static PollAudit small() {
        PollAudit x = new PollAudit();
        x.batch(3);
        x.batch(2);
        x.candidate(3);
        x.candidate(1);
        return x;
    }

    /** A small one with a seed, records and coins, brought to the stage. */
    static PollAudit at(int stage, boolean comparing, boolean seeded) {
        PollAudit x = small();
        x.set(1, 2);
        x.digit(7);
        x.record(0, 5, 0);
        x.coins(0x0a72e5b1, 32);
        if (stage == 3) {
            x.fraction(0, 9, 10);
        }
        if (stage > 0) {
            x.start(comparing, seeded);
        }
        if (stage > 1) {
            drawOne(x);
        }
        if (stage > 2) {
            x.see(stage == 3 ? 0 : 1);
        }
        if (stage > 3) {
            drawOne(x);
            if (x.told(0) == 2) {
                x.see(1);
            }
        }
        if (stage > 4) {
            x.counted(0, 3);
            x.counted(1, 1);
        }
        Check.due("the scene's stage", stage, () -> x.told(0));
        return x;
    }

    /** A draw that is no BLANK, so that a stage is come to with few coins. */
    private static void drawOne(PollAudit x) {
        int drawn = x.draw();
        Check.due("the scene draws a ballot", true, () -> drawn >= 0);
    }

    /** Draws the ballot, of fewer than 2 to the 30, by coins; it is to be seen, or counts. */
    static int drawBallot(PollAudit x, int ballot) {
        x.coins(ballot, x.told(11));
        return x.draw();
    }

    /** Draws the ballot by coins and sees it as the candidate. */
    static int drawAs(PollAudit x, int ballot, int candidate) {
        drawBallot(x, ballot);
        return x.see(candidate);
    }

    /** All that can be read of an object with no change to it; of the ballots the first five and the last. */
    static String read(PollAudit x) {
        StringBuilder text = new StringBuilder("told");
        for (int what = 0; what < 13; what++) {
            text.append(' ').append(x.told(what));
        }
        int candidates = x.told(1);
        for (int c = 0; c < candidates; c++) {
            text.append(" of");
            for (int what = 0; what < 4; what++) {
                text.append(' ').append(x.of(c, what));
            }
        }
        int pairs = x.told(8);
        for (int k = 0; k < pairs; k++) {
            text.append(" pair ").append(x.pair(k, 0)).append(' ').append(x.pair(k, 1)).append(' ').append(x.pair(k, 2));
        }
        int ballots = x.told(3);
        for (int b = 0; b < Math.min(5, ballots); b++) {
            readBallot(text, x, b);
        }
        if (ballots > 5) {
            readBallot(text, x, ballots - 1);
        }
        return text.append(" shown ").append(part(x, 0)).append('/').append(part(x, 1)).toString();
    }

    private static void readBallot(StringBuilder text, PollAudit x, int ballot) {
        text.append(" ballot");
        for (int what = 0; what < 4; what++) {
            text.append(' ').append(x.ballot(ballot, what));
        }
    }

    /** What a run from here on answers: the stage's own calls, then what is set, as a second audit tells it. */
    static String rest(PollAudit x) {
        StringBuilder text = new StringBuilder();
        for (int what = 0; what < 5; what++) {
            int w = what;
            text.append(Check.answer(() -> x.show(w, 0))).append(' ');
            text.append(part(x, 0)).append('/').append(part(x, 1)).append(' ');
        }
        text.append(Check.answer(() -> x.digest(10, 31))).append(' ');
        for (int i = 0; i < 4; i++) {
            int votes = i;
            text.append(Check.answer(() -> x.see(0))).append(' ');
            text.append(Check.answer(() -> x.draw())).append(' ');
            text.append(Check.answer(() -> x.counted(votes & 1, votes))).append(' ');
        }
        text.append(read(x)).append(' ');
        x.again();
        x.coins(0x13579bdf, 32);
        text.append(Check.answer(() -> x.start(true, false))).append(' ');
        text.append(Check.answer(() -> x.draw())).append(' ');
        text.append(Check.answer(() -> x.see(0))).append(' ');
        text.append(Check.answer(() -> x.show(1, 0))).append(' ').append(read(x)).append(' ');
        x.again();
        text.append(Check.answer(() -> x.set(0, 1))).append(' ').append(Check.answer(() -> x.set(1, 2))).append(' ');
        text.append(Check.answer(() -> x.digit(3))).append(' ').append(Check.answer(() -> x.digest(1, 0))).append(' ');
        text.append(Check.answer(() -> x.candidate(2))).append(' ').append(Check.answer(() -> x.batch(1)));
        return text.toString();
    }

    /** A part of what is shown. */
    static BigInteger part(PollAudit x, int part) {
        BigInteger number = BigInteger.ZERO;
        for (int i = x.size(part) - 1; i >= 0; i--) {
            number = number.shiftLeft(32).add(BigInteger.valueOf(x.limb(part, i) & 0xffffffffL));
        }
        return number;
    }

    /** Shows the fraction and holds it against up / low, which are in lowest terms. */
    static void shows(PollAudit x, int what, int k, long up, long low) {
        String name = "show(" + what + ", " + k + ")";
        Check.due(name, up >= low, () -> x.show(what, k));
        isShown(name, x, up, low);
    }

    static void isShown(String name, PollAudit x, BigInteger up, BigInteger low) {
        BigInteger common = up.gcd(low);
        Check.same(name + ", above", up.divide(common).toString(), part(x, 0).toString());
        Check.same(name + ", below", low.divide(common).toString(), part(x, 1).toString());
        for (int p = 0; p < 2; p++) {
            int n = p;
            Check.due(name + ", the highest is not 0", true, () -> x.size(n) == 0 || x.limb(n, x.size(n) - 1) != 0);
        }
    }

    static void isShown(String name, PollAudit x, long up, long low) {
        isShown(name, x, BigInteger.valueOf(up), BigInteger.valueOf(low));
    }
}
