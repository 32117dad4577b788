/** Promises 1 to 9: what is set before an audit, and its start. */
final class SettingTest {
    public static void main(String[] args) {
        newObject();
        candidates();
        batches();
        settings();
        fractions();
        records();
        digits();
        coins();
        start();
        settingIsOver();
        Check.end();
    }

    /** 10 ballots, candidates with 6 and 4 votes. */
    private static PollAudit small() {
        PollAudit x = new PollAudit();
        x.batch(10);
        x.candidate(6);
        x.candidate(4);
        return x;
    }

    private static void newObject() {
        PollAudit x = new PollAudit();
        for (int what = 0; what < 13; what++) {
            int w = what;
            Check.due("new told " + w, w == 10 ? -1 : 0, () -> x.told(w));
        }
        Check.due("new size above", 0, () -> x.size(0));
        Check.due("new size below", 1, () -> x.size(1));
        Check.due("new limb below", 1, () -> x.limb(1, 0));
        Check.none("new limb above", () -> x.limb(0, 0));
        Check.none("new pair", () -> x.pair(0, 0));
        Check.none("new of", () -> x.of(0, 0));
        Check.none("new ballot", () -> x.ballot(0, 0));
        Check.due("new limit below 1", false, () -> x.show(4, 0));
        Check.due("new limit 1 /", 1, () -> x.limb(0, 0));
        Check.due("new limit / 10", 10, () -> x.limb(1, 0));
    }

    private static void candidates() {
        PollAudit x = new PollAudit();
        Check.bad("candidate -1", () -> x.candidate(-1));
        Check.bad("candidate 1000001", () -> x.candidate(1000001));
        Check.due("candidate 0", 0, () -> x.candidate(0));
        Check.due("candidate 1000000", 1, () -> x.candidate(1000000));
        for (int c = 2; c < 8; c++) {
            int n = c;
            Check.due("candidate " + n, n, () -> x.candidate(n));
        }
        Check.room("candidate, a ninth", () -> x.candidate(5));
        Check.bad("candidate, a ninth of -1", () -> x.candidate(-1));
        Check.due("told 1", 8, () -> x.told(1));
        Check.due("of 1, 0", 1000000, () -> x.of(1, 0));
    }

    private static void batches() {
        PollAudit x = new PollAudit();
        Check.bad("batch 0", () -> x.batch(0));
        Check.bad("batch 4001", () -> x.batch(4001));
        for (int b = 0; b < 4; b++) {
            int first = b * 4000;
            Check.due("batch " + b, first, () -> x.batch(4000));
        }
        Check.due("batch 3999", 16000, () -> x.batch(3999));
        Check.room("batch, ballots over 20000", () -> x.batch(2));
        Check.due("batch, ballots to 20000", 19999, () -> x.batch(1));
        Check.room("batch, ballots over 20000 by one", () -> x.batch(1));
        Check.bad("batch, a wrong one at 20000", () -> x.batch(-5));
        Check.due("told 2", 6, () -> x.told(2));
        Check.due("told 3", 20000, () -> x.told(3));
        Check.due("told 11", 15, () -> x.told(11));
        Check.due("batch of the last", 5, () -> x.ballot(19999, 0));
        Check.due("batch of 3999", 0, () -> x.ballot(3999, 0));
        Check.due("batch of 4000", 1, () -> x.ballot(4000, 0));
        PollAudit y = new PollAudit();
        for (int b = 0; b < 64; b++) {
            int first = b;
            Check.due("small batch " + b, first, () -> y.batch(1));
        }
        Check.room("batch 65", () -> y.batch(1));
        Check.due("told 11 of 64", 6, () -> y.told(11));
    }

    private static void settings() {
        PollAudit x = new PollAudit();
        Check.none("set -1", () -> x.set(-1, 0));
        Check.none("set 2", () -> x.set(2, 1));
        Check.bad("set 0, 0", () -> x.set(0, 0));
        Check.bad("set 0, 8", () -> x.set(0, 8));
        Check.bad("set 1, 0", () -> x.set(1, 0));
        Check.bad("set 1, 201", () -> x.set(1, 201));
        Check.due("set 0, 7", 1, () -> x.set(0, 7));
        Check.due("set 0, 2", 7, () -> x.set(0, 2));
        Check.due("set 1, 200", 100, () -> x.set(1, 200));
        Check.due("set 1, 1", 200, () -> x.set(1, 1));
        Check.due("set 0 again", 2, () -> x.set(0, 1));
    }

    private static void fractions() {
        PollAudit x = new PollAudit();
        Check.none("fraction 2", () -> x.fraction(2, 0, 0));
        Check.none("fraction -1", () -> x.fraction(-1, 1, 2));
        Check.bad("limit 0 / 1", () -> x.fraction(0, 0, 1));
        Check.bad("limit 1 / 0", () -> x.fraction(0, 1, 0));
        Check.bad("limit 1 / 1", () -> x.fraction(0, 1, 1));
        Check.bad("limit 3 / 2", () -> x.fraction(0, 3, 2));
        Check.bad("limit 1 / 1000001", () -> x.fraction(0, 1, 1000001));
        Check.bad("limit -1 / -2", () -> x.fraction(0, -1, -2));
        Check.bad("gamma 1 / 1", () -> x.fraction(1, 1, 1));
        Check.bad("gamma 1 / 2", () -> x.fraction(1, 1, 2));
        Check.bad("gamma 1000001 / 1", () -> x.fraction(1, 1000001, 1));
        Check.bad("gamma 2 / 0", () -> x.fraction(1, 2, 0));
        Check.done("gamma 1000000 / 999999", () -> x.fraction(1, 1000000, 999999));
        Check.done("limit 999998 / 1000000", () -> x.fraction(0, 999998, 1000000));
        Check.due("limit shown", false, () -> x.show(4, 0));
        Check.due("limit above", 499999, () -> x.limb(0, 0));
        Check.due("limit below", 500000, () -> x.limb(1, 0));
    }

    private static void records() {
        PollAudit x = small();
        Check.due("record at first", -1, () -> x.ballot(0, 1));
        Check.none("record ballot -1", () -> x.record(-1, 1, 0));
        Check.none("record ballot 10", () -> x.record(10, 1, 0));
        Check.none("record 0 of them", () -> x.record(3, 0, 0));
        Check.none("record -1 of them", () -> x.record(3, -1, 0));
        Check.none("record too many", () -> x.record(3, 8, 0));
        Check.none("record far too many", () -> x.record(3, Integer.MAX_VALUE, 0));
        Check.none("record candidate 2", () -> x.record(3, 1, 2));
        Check.none("record candidate -2", () -> x.record(3, 1, -2));
        Check.due("record still", -1, () -> x.ballot(3, 1));
        Check.done("record 3 to 9", () -> x.record(3, 7, 1));
        Check.done("record 4", () -> x.record(4, 1, 0));
        Check.done("record 5 none", () -> x.record(5, 1, -1));
        int[] due = {-1, -1, -1, 1, 0, -1, 1, 1, 1, 1};
        for (int b = 0; b < 10; b++) {
            int n = b;
            Check.due("record of " + n, due[n], () -> x.ballot(n, 1));
        }
        x.again();
        Check.due("record stays", 0, () -> x.ballot(4, 1));
    }

    private static void digits() {
        PollAudit x = small();
        Check.bad("digit -1", () -> x.digit(-1));
        Check.bad("digit 10", () -> x.digit(10));
        for (int d = 1; d <= 20; d++) {
            int n = d;
            Check.due("digit " + n, n, () -> x.digit(n % 10));
        }
        Check.room("digit 21", () -> x.digit(0));
        Check.bad("digit 21 wrong", () -> x.digit(10));
    }

    private static void coins() {
        PollAudit x = small();
        Check.bad("coins -1", () -> x.coins(0, -1));
        Check.bad("coins 33", () -> x.coins(0, 33));
        Check.due("coins 0", 0, () -> x.coins(7, 0));
        for (int i = 1; i <= 124; i++) {
            int n = 32 * i;
            Check.due("coins to " + n, n, () -> x.coins(0x5, 32));
        }
        Check.due("coins to 3999", 3999, () -> x.coins(-1, 31));
        Check.room("coins over 4000", () -> x.coins(1, 2));
        Check.due("coins to 4000", 4000, () -> x.coins(1, 1));
        Check.room("coins, one too many", () -> x.coins(1, 1));
        Check.due("coins, none more", 4000, () -> x.coins(1, 0));
        Check.bad("coins, wrong when full", () -> x.coins(1, 33));
        x.start(false, false);
        Check.due("draw of 0000", 0, () -> x.draw());
        Check.due("coins behind a draw", 3996, () -> x.told(7));
        Check.due("coins in another stage", 4000, () -> x.coins(0, 4));
        Check.due("again", "done", () -> Check.answer(() -> x.again()));
        Check.due("no coins", 0, () -> x.told(7));
        Check.due("first bits", 6, () -> x.coins(0xffffffe5, 6));
        x.start(false, false);
        Check.due("highest of the lowest six first", 9, () -> x.draw());
        x.see(0);
        Check.due("two are left", -1, () -> x.draw());
        x.coins(2, 2);
        Check.due("01 and 10", 6, () -> x.draw());
    }

    private static void start() {
        PollAudit x = new PollAudit();
        x.digit(1);
        Check.stage("nothing", () -> x.start(false, true));
        x.batch(10);
        x.candidate(5);
        Check.stage("one candidate", () -> x.start(false, false));
        x.candidate(5);
        Check.stage("a tie", () -> x.start(false, false));
        x.candidate(5);
        x.set(0, 3);
        Check.stage("all win", () -> x.start(false, false));
        x.set(0, 4);
        Check.stage("more win", () -> x.start(false, false));
        x.candidate(1);
        Check.stage("as many again", () -> x.start(false, false));
        x.set(0, 3);
        Check.due("stage", 0, () -> x.told(0));
        Check.done("winners may tie", () -> x.start(false, false));
        Check.due("stage drawing", 1, () -> x.told(0));
        Check.stage("started", () -> x.start(false, false));
        x.again();
        Check.done("seeded", () -> x.start(true, true));
        PollAudit y = small();
        Check.stage("no seed", () -> y.start(false, true));
        Check.done("no seed, by coins", () -> y.start(true, false));
        y.again();
        y.candidate(11);
        Check.stage("votes above N", () -> y.start(false, false));
        PollAudit z = new PollAudit();
        z.candidate(0);
        z.candidate(0);
        Check.stage("no ballots", () -> z.start(false, false));
        PollAudit even = new PollAudit();
        even.batch(3);
        even.candidate(3);
        even.candidate(2);
        even.candidate(2);
        Check.done("losers may tie, votes may be more than N", () -> even.start(false, false));
    }

    private static void settingIsOver() {
        PollAudit x = small();
        x.start(false, false);
        Check.stage("candidate", () -> x.candidate(1));
        Check.bad("candidate wrong", () -> x.candidate(-1));
        Check.stage("batch", () -> x.batch(1));
        Check.bad("batch wrong", () -> x.batch(0));
        Check.stage("set", () -> x.set(0, 1));
        Check.none("set wrong what", () -> x.set(2, 1));
        Check.bad("set wrong", () -> x.set(1, 0));
        Check.stage("fraction", () -> x.fraction(0, 1, 2));
        Check.none("fraction wrong what", () -> x.fraction(2, 1, 2));
        Check.bad("fraction wrong", () -> x.fraction(0, 2, 1));
        Check.stage("record", () -> x.record(0, 1, 0));
        Check.none("record wrong", () -> x.record(0, 1, 2));
        Check.stage("digit", () -> x.digit(1));
        Check.bad("digit wrong", () -> x.digit(10));
        Check.due("told 1", 2, () -> x.told(1));
        Check.due("told 3", 10, () -> x.told(3));
        x.again();
        for (int c = 2; c < 8; c++) {
            x.candidate(0);
        }
        x.start(false, false);
        Check.stage("candidate: the stage before the room", () -> x.candidate(1));
    }
}
