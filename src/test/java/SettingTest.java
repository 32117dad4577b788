import java.util.ArrayDeque;
import java.util.Arrays;
import java.util.Random;

/** Part 1 of the terms, and promises 1 to 9: what is set before an audit, and its start. */
final class SettingTest {
    private static final int LEAST = Integer.MIN_VALUE, MOST = Integer.MAX_VALUE;

    public static void main(String[] args) throws Exception {
        newObject();
        atFirst();
        candidateVotes();
        candidateRoom();
        batchSizes();
        batchRoomOfBatches();
        batchRoomOfBallots();
        setRanges();
        setDoes();
        limitRange();
        gammaRange();
        recordRange();
        recordCandidates();
        recordStays();
        digitRange();
        digitRoom();
        coinsRange();
        coinsOrder();
        coinsRoom();
        coinsInTheirOrder();
        coinsInAnyStage();
        startCandidates();
        startWinners();
        startVotes();
        startSeedAndCoins();
        startStages();
        Check.end();
    }

    private static void newObject() {
        PollAudit x = new PollAudit();
        Check.about("1: SETTING, with nothing");
        for (int what = 0; what < 13; what++) {
            int w = what;
            Check.due("new told " + w, w == 10 ? -1 : 0, () -> x.told(w));
        }
        Check.none("new of", () -> x.of(0, 0));
        Check.none("new pair", () -> x.pair(0, 0));
        Check.none("new ballot", () -> x.ballot(0, 0));
        Check.none("new record", () -> x.record(0, 1, -1));
        Check.stage("new draw", () -> x.draw());
        Check.about("1: what is SHOWN 0 / 1");
        Check.due("new size above", 0, () -> x.size(0));
        Check.due("new size below", 1, () -> x.size(1));
        Check.due("new limb below", 1, () -> x.limb(1, 0));
        Check.none("new limb above", () -> x.limb(0, 0));
        Check.none("new second limb below", () -> x.limb(1, 1));
        Check.about("1: no coins, no seed");
        PollAudit y = Scene.small();
        Check.stage("new start by the seed", () -> y.start(false, true));
        y.start(false, false);
        Check.due("new draw by coins", -1, () -> y.draw());
        Check.due("new first digit", 1, () -> x.digit(5));
        Check.due("new first coins", 3, () -> x.coins(5, 3));
    }

    private static void atFirst() {
        Check.about("Terms: how many WIN (W, 1 at first)");
        PollAudit x = new PollAudit();
        Check.due("W at first", 1, () -> x.set(0, 2));
        Check.about("Terms: THE CAP (100)");
        Check.due("the cap at first", 100, () -> x.set(1, 2));
        Check.about("Terms: THE LIMIT (1 / 10 at first)");
        Scene.shows(x, 4, 0, 1, 10);
        Check.about("Terms: GAMMA (11 / 10)");
        PollAudit y = Scene.small();
        y.start(true, false);
        Scene.drawBallot(y, 7);
        Scene.shows(y, 1, 0, 9, 11);
        Check.about("Terms: RECORDS .. NONE (at first)");
        for (int b = 0; b < 5; b++) {
            int n = b;
            Check.due("record of " + n, -1, () -> y.ballot(n, 1));
        }
        Check.about("Terms: THE CAP (100), as it is drawn");
        PollAudit z = Scene.poll(1, 1, 0);
        z.start(false, false);
        z.draw();
        z.see(-1);
        for (int i = 2; i <= 99; i++) {
            z.draw();
        }
        Check.due("with 99 draws", 1, () -> z.told(0));
        z.draw();
        Check.due("with 100 draws", 4, () -> z.told(0));
    }

    private static void candidateVotes() {
        PollAudit x = new PollAudit();
        Check.about("2: IllegalArgumentException: votes (0 .. 1000000)");
        for (int wrong : new int[] {-1, 1000001, LEAST, MOST}) {
            Check.bad("candidate(" + wrong + ")", () -> x.candidate(wrong));
        }
        Check.due("none came of it", 0, () -> x.told(1));
        Check.due("candidate(0)", 0, () -> x.candidate(0));
        Check.due("candidate(1000000)", 1, () -> x.candidate(1000000));
        Check.due("votes of 0", 0, () -> x.of(0, 0));
        Check.due("votes of 1", 1000000, () -> x.of(1, 0));
        Check.none("votes of 2", () -> x.of(2, 0));
    }

    private static void candidateRoom() {
        PollAudit x = new PollAudit();
        Check.about("2: A candidate more: its number");
        for (int c = 0; c < 8; c++) {
            int n = c;
            Check.due("candidate " + n, n, () -> x.candidate(10 * n));
        }
        Check.about("2: UnsupportedOperationException: there are 8");
        Check.room("a ninth", () -> x.candidate(5));
        Check.bad("a ninth with wrong votes", () -> x.candidate(-1));
        Check.due("there are 8", 8, () -> x.told(1));
        Check.due("votes of the eighth", 70, () -> x.of(7, 0));
        Scene.addBallots(x, 70);
        x.start(false, false);
        Check.stage("a ninth behind the start", () -> x.candidate(5));
    }

    private static void batchSizes() {
        PollAudit x = new PollAudit();
        Check.about("3: batches of 1 .. 4000");
        for (int wrong : new int[] {0, -1, 4001, LEAST, MOST}) {
            Check.bad("batch(" + wrong + ")", () -> x.batch(wrong));
        }
        Check.due("none came of it", 0, () -> x.told(2));
        Check.about("3: the number of its first ballot");
        Check.due("batch(1)", 0, () -> x.batch(1));
        Check.due("batch(4000)", 1, () -> x.batch(4000));
        Check.due("batch(2)", 4001, () -> x.batch(2));
        Check.due("batches", 3, () -> x.told(2));
        Check.due("N", 4003, () -> x.told(3));
        Check.none("a ballot behind the last", () -> x.ballot(4003, 0));
        int[][] batchOf = {{0, 0}, {1, 1}, {4000, 1}, {4001, 2}, {4002, 2}};
        for (int[] due : batchOf) {
            Check.due("batch of ballot " + due[0], due[1], () -> x.ballot(due[0], 0));
        }
    }

    private static void batchRoomOfBatches() {
        PollAudit x = new PollAudit();
        Check.about("3: UnsupportedOperationException: there are 64");
        for (int b = 0; b < 64; b++) {
            int n = b;
            Check.due("batch " + n, 3 * n, () -> x.batch(3));
        }
        Check.room("batch 64", () -> x.batch(1));
        Check.bad("batch 64, a wrong one", () -> x.batch(0));
        Check.due("there are 64", 64, () -> x.told(2));
        Check.due("N", 192, () -> x.told(3));
        Check.due("batch of the last ballot", 63, () -> x.ballot(191, 0));
        Check.due("batch of the last but three", 62, () -> x.ballot(188, 0));
        x.candidate(2);
        x.candidate(1);
        x.start(false, false);
        Check.stage("batch 64 behind the start", () -> x.batch(1));
    }

    private static void batchRoomOfBallots() {
        PollAudit x = Scene.poll(16000);
        Check.about("3: UnsupportedOperationException: ballots would be more than 20000");
        Check.due("to 19999", 16000, () -> x.batch(3999));
        Check.room("to 20001", () -> x.batch(2));
        Check.room("to 23999", () -> x.batch(4000));
        Check.due("no more batches", 5, () -> x.told(2));
        Check.due("no more ballots", 19999, () -> x.told(3));
        Check.due("to 20000", 19999, () -> x.batch(1));
        Check.room("beyond 20000", () -> x.batch(1));
        Check.bad("beyond 20000, a wrong one", () -> x.batch(4001));
        Check.due("N", 20000, () -> x.told(3));
        Check.due("the last ballot's batch", 5, () -> x.ballot(19999, 0));
        PollAudit y = Scene.poll(20000);
        Check.due("20000 in five", 5, () -> y.told(2));
        Check.room("a sixth", () -> y.batch(1));
    }

    private static void setRanges() {
        PollAudit x = new PollAudit();
        Check.about("4: IndexOutOfBoundsException: no such what");
        for (int wrong : new int[] {-1, 2, LEAST, MOST}) {
            Check.none("set(" + wrong + ", 1)", () -> x.set(wrong, 1));
            Check.none("set(" + wrong + ", 0)", () -> x.set(wrong, 0));
        }
        Check.about("4: IllegalArgumentException: not 1 .. 7, 1 .. 200; what it was");
        for (int wrong : new int[] {0, -1, 8, LEAST, MOST}) {
            Check.bad("set(0, " + wrong + ")", () -> x.set(0, wrong));
        }
        for (int wrong : new int[] {0, -1, 201, LEAST, MOST}) {
            Check.bad("set(1, " + wrong + ")", () -> x.set(1, wrong));
        }
        Check.due("set(0, 7)", 1, () -> x.set(0, 7));
        Check.due("set(0, 1)", 7, () -> x.set(0, 1));
        Check.due("set(0, 2)", 1, () -> x.set(0, 2));
        Check.due("set(1, 200)", 100, () -> x.set(1, 200));
        Check.due("set(1, 1)", 200, () -> x.set(1, 1));
        Check.due("set(1, 8)", 1, () -> x.set(1, 8));
        Check.due("each for itself", 2, () -> x.set(0, 2));
    }

    private static void setDoes() {
        Check.about("4: How many WIN, 1 .. 7");
        int[] votes = {8, 7, 6, 5, 4, 3, 2, 1};
        for (int w = 1; w <= 7; w++) {
            PollAudit x = Scene.poll(8, votes);
            int many = w;
            x.set(0, many);
            x.start(false, false);
            Check.due("pairs with W " + many, many * (8 - many), () -> x.told(8));
            Check.due("the last winner of " + many, 1, () -> x.of(many - 1, 1));
            Check.due("the first loser of " + many, 0, () -> x.of(many, 1));
        }
        Check.about("4: THE CAP, 1 .. 200");
        for (int cap : new int[] {1, 2, 199, 200}) {
            PollAudit x = Scene.poll(1, 1, 0);
            x.set(1, cap);
            x.start(false, false);
            x.draw();
            x.see(-1);
            for (int i = 2; i < cap; i++) {
                x.draw();
            }
            if (cap > 1) {
                Check.due("a draw before the cap " + cap, 1, () -> x.told(0));
                x.draw();
            }
            Check.due("at the cap " + cap, 4, () -> x.told(0));
            Check.due("draws", cap, () -> x.told(4));
        }
    }

    private static void limitRange() {
        PollAudit x = new PollAudit();
        Check.about("5: THE LIMIT (what = 0; above 0, below 1)");
        int[][] wrong = {{0, 1}, {0, 0}, {1, 0}, {-1, 2}, {1, -2}, {-1, -2}, {-2, -1}, {1, 1}, {1000000, 1000000},
            {2, 1}, {1000000, 999999}, {1, 1000001}, {1000000, 1000001}, {1000001, 1000002}, {LEAST, MOST}, {1, MOST}};
        for (int[] w : wrong) {
            Check.bad("limit " + w[0] + " / " + w[1], () -> x.fraction(0, w[0], w[1]));
        }
        Scene.shows(x, 4, 0, 1, 10);
        int[][] right = {{1, 1000000}, {999999, 1000000}, {1, 2}, {999998, 999999}};
        for (int[] r : right) {
            Check.done("limit " + r[0] + " / " + r[1], () -> x.fraction(0, r[0], r[1]));
            Scene.shows(x, 4, 0, r[0], r[1]);
        }
        Check.done("limit 500000 / 1000000", () -> x.fraction(0, 500000, 1000000));
        Scene.shows(x, 4, 0, 1, 2);
        Check.about("5: IndexOutOfBoundsException: no such what");
        for (int what : new int[] {-1, 2, LEAST, MOST}) {
            Check.none("fraction " + what, () -> x.fraction(what, 1, 2));
            Check.none("fraction " + what + ", wrong", () -> x.fraction(what, 0, 0));
        }
        Scene.shows(x, 4, 0, 1, 2);
    }

    /** 5 ballots and a least margin of 2: a BLANK makes P times 1 - low / (5 up), where gamma is up / low. */
    private static void gammaRange() {
        PollAudit x = Scene.small();
        Check.about("5: GAMMA (1; above 1)");
        int[][] wrong = {{0, 1}, {1, 0}, {2, 0}, {0, 0}, {2, -1}, {-2, 1}, {-1, -2}, {1, 1}, {1000000, 1000000},
            {1, 2}, {999999, 1000000}, {1000001, 1}, {1000001, 1000000}, {1000002, 1000001}, {MOST, 1}, {MOST, LEAST}};
        for (int[] w : wrong) {
            Check.bad("gamma " + w[0] + " / " + w[1], () -> x.fraction(1, w[0], w[1]));
        }
        gammaIs(x, 9, 11);
        int[][] right = {{1000000, 1, 4999999, 5000000}, {1000000, 999999, 4000001, 5000000}, {2, 1, 9, 10},
            {999999, 999998, 3999997, 4999995}, {4, 2, 9, 10}};
        for (int[] r : right) {
            Check.done("gamma " + r[0] + " / " + r[1], () -> x.fraction(1, r[0], r[1]));
            gammaIs(x, r[2], r[3]);
        }
        Check.about("5: each for itself");
        Scene.shows(x, 4, 0, 1, 10);
        x.fraction(0, 1, 3);
        gammaIs(x, 9, 10);
    }

    private static void gammaIs(PollAudit x, int up, int low) {
        x.start(true, false);
        Scene.drawBallot(x, 7);
        Scene.shows(x, 1, 0, up, low);
        x.again();
    }

    private static void recordRange() {
        PollAudit x = Scene.poll(10, 6, 4);
        Check.about("6: IndexOutOfBoundsException: also many below 1, the last one");
        for (int wrong : new int[] {-1, 10, 11, LEAST, MOST}) {
            Check.none("record from " + wrong, () -> x.record(wrong, 1, 0));
        }
        for (int wrong : new int[] {0, -1, 8, 10, LEAST, MOST, MOST - 2}) {
            Check.none("record " + wrong + " from 3 on", () -> x.record(3, wrong, 0));
        }
        Check.none("record 11 from 0 on", () -> x.record(0, 11, 0));
        Check.none("record 2 from 9 on", () -> x.record(9, 2, 0));
        recordsAre(x, -1, -1, -1, -1, -1, -1, -1, -1, -1, -1);
        Check.about("6: The RECORDS of ballots from one on, so many (1 or more)");
        Check.done("record the last", () -> x.record(9, 1, 0));
        recordsAre(x, -1, -1, -1, -1, -1, -1, -1, -1, -1, 0);
        Check.done("record 7 from 3 on", () -> x.record(3, 7, 1));
        recordsAre(x, -1, -1, -1, 1, 1, 1, 1, 1, 1, 1);
        Check.done("record the first", () -> x.record(0, 1, 0));
        Check.done("record 2 from 4 on as none", () -> x.record(4, 2, -1));
        recordsAre(x, 0, -1, -1, 1, -1, -1, 1, 1, 1, 1);
        Check.done("record all", () -> x.record(0, 10, 0));
        recordsAre(x, 0, 0, 0, 0, 0, 0, 0, 0, 0, 0);
        PollAudit y = Scene.poll(20000, 1, 2);
        Check.done("record all 20000", () -> y.record(0, 20000, 1));
        Check.none("record 20001", () -> y.record(0, 20001, 0));
        Check.due("the first of 20000", 1, () -> y.ballot(0, 1));
        Check.due("the last of 20000", 1, () -> y.ballot(19999, 1));
        Check.about("6: with no ballots there is none");
        PollAudit z = Scene.poll(0, 1);
        Check.none("record with no ballots", () -> z.record(0, 1, 0));
    }

    private static void recordsAre(PollAudit x, int... due) {
        for (int b = 0; b < due.length; b++) {
            int n = b;
            Check.due("record of " + n, due[n], () -> x.ballot(n, 1));
        }
    }

    private static void recordCandidates() {
        PollAudit x = Scene.poll(2);
        Check.about("6: a candidate (there must be such by then), or NONE");
        Check.none("candidate 0 of none", () -> x.record(0, 2, 0));
        Check.done("none of none", () -> x.record(0, 2, -1));
        for (int c = 0; c < 8; c++) {
            int n = c;
            x.candidate(1);
            Check.none("candidate " + (n + 1), () -> x.record(0, 1, n + 1));
            Check.done("candidate " + n, () -> x.record(0, 1, n));
            recordsAre(x, n, -1);
        }
        for (int wrong : new int[] {-2, 8, LEAST, MOST, 255, 256}) {
            Check.none("candidate " + wrong, () -> x.record(0, 2, wrong));
        }
        recordsAre(x, 7, -1);
    }

    private static void recordStays() {
        PollAudit x = Scene.poll(2, 2, 1);
        x.record(0, 2, 1);
        Check.about("Terms: RECORDS .. NONE (at first): of a batch that comes later too");
        x.batch(1);
        recordsAre(x, 1, 1, -1);
        Check.about("6: IllegalStateException: not SETTING; it stays");
        x.start(false, false);
        Check.stage("record behind the start", () -> x.record(0, 1, 0));
        Check.none("a wrong record behind the start", () -> x.record(0, 1, 2));
        recordsAre(x, 1, 1, -1);
        x.again();
        recordsAre(x, 1, 1, -1);
        Check.done("record behind again", () -> x.record(2, 1, 0));
        recordsAre(x, 1, 1, 0);
    }

    private static void digitRange() throws Exception {
        PollAudit x = new PollAudit();
        Check.about("7: IllegalArgumentException: not 0 .. 9");
        for (int wrong : new int[] {-1, 10, LEAST, MOST}) {
            Check.bad("digit(" + wrong + ")", () -> x.digit(wrong));
        }
        Check.about("7: A digit more of the seed: how many it has");
        for (int d = 0; d <= 9; d++) {
            int n = d;
            Check.due("digit(" + n + ")", n + 1, () -> x.digit(n));
        }
        int due = ShownTest.digestOf("0123456789,1")[0] & 255;
        Check.due("digest of them", due, () -> x.digest(1, 0));
    }

    private static void digitRoom() throws Exception {
        PollAudit x = Scene.small();
        Check.about("7: UnsupportedOperationException: it has 20");
        for (int d = 1; d <= 20; d++) {
            int n = d;
            Check.due("digit " + n, n, () -> x.digit(9 - n % 10));
        }
        Check.room("digit 21", () -> x.digit(0));
        Check.bad("digit 21, a wrong one", () -> x.digit(10));
        int due = ShownTest.digestOf("87654321098765432109,7")[31] & 255;
        Check.due("digest of 20", due, () -> x.digest(7, 31));
        x.start(false, true);
        Check.stage("digit 21 behind the start", () -> x.digit(0));
        x.again();
        Check.room("digit 21 behind again", () -> x.digit(0));
    }

    private static void coinsRange() {
        PollAudit x = Scene.small();
        Check.about("8: IllegalArgumentException: n is not 0 .. 32");
        for (int wrong : new int[] {-1, 33, LEAST, MOST}) {
            Check.bad("coins(0, " + wrong + ")", () -> x.coins(0, wrong));
        }
        Check.about("8: how many are there that were not drawn");
        Check.due("coins(-1, 0)", 0, () -> x.coins(-1, 0));
        Check.due("coins(0, 1)", 1, () -> x.coins(0, 1));
        Check.due("coins(0, 32)", 33, () -> x.coins(0, 32));
        Check.due("coins(0, 0)", 33, () -> x.coins(0, 0));
        x.start(false, false);
        x.draw();
        Check.due("coins behind a draw of 3", 30, () -> x.coins(0, 0));
    }

    /** With 8 ballots a draw takes 3 coins, and all numbers are ballots. */
    private static void coinsOrder() {
        Check.about("8: the lowest n bits, the highest of them first");
        PollAudit x = Scene.poll(8, 5, 3);
        x.coins(0b10110, 3);
        x.start(false, false);
        drawsAre(x, 6);
        x.coins(0b100, 3);
        x.coins(0b001, 3);
        drawsAre(x, 4, 1);
        x.coins(1, 1);
        x.coins(2, 2);
        drawsAre(x, 6);
        x.coins(0x80000001, 32);
        x.coins(0, 1);
        drawsAre(x, 4, 0, 0, 0, 0, 0, 0, 0, 0, 0, 2);
        x.coins(0xfffffff2, 3);
        drawsAre(x, 2);
    }

    private static void drawsAre(PollAudit x, int... due) {
        for (int ballot : due) {
            Check.due("draw", ballot, () -> x.draw());
            if (x.told(0) == 2) {
                x.see(-1);
            }
        }
    }

    private static void coinsRoom() {
        PollAudit x = Scene.small();
        Check.about("8: UnsupportedOperationException: there would be more than 4000");
        for (int i = 1; i <= 124; i++) {
            int n = 32 * i;
            Check.due("coins to " + n, n, () -> x.coins(0, 32));
        }
        Check.due("coins to 3999", 3999, () -> x.coins(0, 31));
        Check.room("coins to 4001", () -> x.coins(-1, 2));
        Check.room("coins to 4031", () -> x.coins(-1, 32));
        Check.due("none of them came", 3999, () -> x.told(7));
        Check.due("coins to 4000", 4000, () -> x.coins(1, 1));
        Check.room("one beyond 4000", () -> x.coins(1, 1));
        Check.due("none beyond 4000", 4000, () -> x.coins(1, 0));
        Check.bad("33 beyond 4000", () -> x.coins(1, 33));
        Check.bad("-1 beyond 4000", () -> x.coins(1, -1));
        x.start(false, false);
        drawsAre(x, 0);
        Check.room("four where three were drawn", () -> x.coins(0, 4));
        Check.due("three where three were drawn", 4000, () -> x.coins(7, 3));
        Check.room("full again", () -> x.coins(0, 1));
    }

    /** With 16384 ballots a draw takes 14 coins; the row is full at first, and is filled up behind every second draw. */
    private static void coinsInTheirOrder() {
        PollAudit x = Scene.poll(16384, 2, 1);
        Check.about("8: n coins more, behind those that are there, also when there were 4000");
        x.set(1, 200);
        Random random = new Random(5);
        ArrayDeque<Integer> row = new ArrayDeque<>();
        for (int i = 0; i < 125; i++) {
            addCoins(x, row, random.nextInt(), 32);
        }
        x.start(false, false);
        for (int i = 1; i <= 130; i++) {
            int due = 0;
            for (int bit = 0; bit < 14; bit++) {
                due = 2 * due + row.remove();
            }
            int ballot = due;
            Check.due("draw " + i, ballot, () -> x.draw());
            Check.answer(() -> x.see(-1));
            if (i % 2 == 0) {
                addCoins(x, row, random.nextInt(), 28);
            }
        }
        Check.due("full", 4000, () -> x.told(7));
    }

    private static void addCoins(PollAudit x, ArrayDeque<Integer> row, int bits, int n) {
        for (int i = n - 1; i >= 0; i--) {
            row.add(bits >>> i & 1);
        }
        Check.due("coins", row.size(), () -> x.coins(bits, n));
    }

    private static void coinsInAnyStage() {
        Check.about("8: in any stage");
        for (int stage = 0; stage < Scene.STAGES; stage++) {
            PollAudit x = Scene.at(stage, false, true);
            Check.due("coins at stage " + stage, 37, () -> x.coins(0, 5));
            Check.due("coins told at stage " + stage, 37, () -> x.told(7));
        }
    }

    private static void startCandidates() {
        Check.about("9: IllegalStateException: fewer candidates than 2");
        PollAudit x = Scene.poll(5);
        Check.stage("none", () -> x.start(false, false));
        x.candidate(5);
        Check.stage("one", () -> x.start(false, false));
        x.candidate(1);
        Check.done("two", () -> x.start(false, false));
        PollAudit y = Scene.poll(5, 5, 1, 1, 1, 1, 1, 1, 1);
        Check.done("eight", () -> y.start(false, false));
        Check.about("9: as many WIN as there are (or more)");
        PollAudit z = Scene.poll(9, 9, 8, 7);
        z.set(0, 7);
        Check.stage("7 of 3", () -> z.start(false, false));
        z.set(0, 4);
        Check.stage("4 of 3", () -> z.start(false, false));
        z.set(0, 3);
        Check.stage("3 of 3", () -> z.start(false, false));
        z.set(0, 2);
        Check.done("2 of 3", () -> z.start(false, false));
        PollAudit all = Scene.poll(9, 9, 8, 7, 6, 5, 4, 3, 2);
        all.set(0, 7);
        Check.done("7 of 8", () -> all.start(false, false));
    }

    private static void startWinners() {
        Check.about("9: no winners as said: there must be no loser with as many votes as a winner");
        starts(false, 1, 4, 4);
        starts(false, 1, 0, 0);
        starts(false, 1, 3, 4, 4);
        starts(false, 2, 5, 4, 4);
        starts(false, 2, 4, 5, 3, 4);
        starts(false, 3, 5, 2, 2, 2, 2);
        starts(false, 2, 5, 5, 5);
        starts(true, 1, 4, 3);
        starts(true, 1, 1, 0);
        starts(true, 2, 4, 4, 3);
        starts(true, 2, 3, 4, 4);
        starts(true, 1, 5, 4, 4);
        starts(true, 3, 0, 5, 5, 0, 5, 0);
        Check.about("Terms: THE WINNERS are the W with the most votes");
        PollAudit x = Scene.poll(9, 2, 9, 5, 5, 8);
        x.set(0, 2);
        x.start(false, false);
        int[] wins = {0, 1, 0, 0, 1};
        for (int c = 0; c < 5; c++) {
            int n = c;
            Check.due("winner " + n, wins[n], () -> x.of(n, 1));
        }
        Check.about("9: what was set anew behind again counts");
        x.again();
        x.set(0, 4);
        x.start(false, false);
        Check.due("a winner now", 1, () -> x.of(2, 1));
        Check.due("still a loser", 0, () -> x.of(0, 1));
        Check.due("pairs", 4, () -> x.told(8));
    }

    private static void starts(boolean does, int winners, int... votes) {
        PollAudit x = Scene.poll(5, votes);
        x.set(0, winners);
        String name = winners + " of " + Arrays.toString(votes);
        if (does) {
            Check.done(name, () -> x.start(false, false));
        } else {
            Check.stage(name, () -> x.start(false, false));
        }
    }

    private static void startVotes() {
        Check.about("9: a vote above N; VOTES of each are N at most");
        starts(true, 1, 5, 4);
        starts(false, 1, 6, 4);
        starts(false, 2, 5, 6, 1);
        starts(false, 1, 1, 1000000);
        PollAudit x = Scene.poll(20000, 20000, 19999);
        Check.done("20000 of 20000", () -> x.start(false, false));
        Check.about("Terms: the votes of all need not fit N");
        starts(true, 1, 5, 4, 4, 4);
        starts(true, 1, 1, 0);
        Check.about("9: no ballots");
        PollAudit y = Scene.poll(0, 1, 0);
        Check.stage("no ballots", () -> y.start(false, false));
        y.batch(1);
        Check.done("one ballot", () -> y.start(false, false));
        PollAudit z = Scene.poll(5, 6, 4);
        Check.stage("6 of 5", () -> z.start(false, false));
        z.batch(1);
        Check.done("6 of 6", () -> z.start(false, false));
    }

    private static void startSeedAndCoins() {
        Check.about("9: no seed where it is by one");
        PollAudit x = Scene.small();
        x.coins(0, 32);
        Check.stage("polling", () -> x.start(false, true));
        Check.stage("comparing", () -> x.start(true, true));
        Check.done("by coins", () -> x.start(true, false));
        x.again();
        x.digit(0);
        Check.done("with a digit", () -> x.start(true, true));
        x.again();
        Check.done("by coins, with a digit, no coins", () -> x.start(false, false));
        Check.due("no coins", -1, () -> x.draw());
        x.again();
        Check.done("by the seed, polling", () -> x.start(false, true));
        Check.due("it draws with no coins", true, () -> x.draw() >= 0);
    }

    private static void startStages() {
        Check.about("9: DRAWING; IllegalStateException: not SETTING");
        PollAudit x = Scene.small();
        Check.due("setting", 0, () -> x.told(0));
        x.start(false, false);
        Check.due("drawing", 1, () -> x.told(0));
        Check.due("no draws", 0, () -> x.told(4));
        for (int stage = 1; stage < Scene.STAGES; stage++) {
            PollAudit y = Scene.at(stage, true, false);
            int n = stage;
            Check.stage("start at stage " + n, () -> y.start(true, false));
            Check.due("stage " + n, n, () -> y.told(0));
        }
    }
}
