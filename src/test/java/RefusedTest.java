import java.util.ArrayList;
import java.util.List;
import java.util.function.Supplier;

/**
 * "Methods throw what their comments name, the one named first when several would do. .. A call that
 * throws changes nothing." Each refused call is made at each stage on an object of its own; then the
 * object must read, and go on, as a twin that was spared the call.
 */
final class RefusedTest {
    private static final int LEAST = Integer.MIN_VALUE, MOST = Integer.MAX_VALUE;

    private static final List<Row> ROWS = new ArrayList<>();

    /** A call on an object. */
    private interface Call {
        void on(PollAudit x);
    }

    /**
     * A call and what it throws at stages 0 to 5: I IndexOutOfBoundsException, A IllegalArgumentException,
     * S IllegalStateException, U UnsupportedOperationException, - nothing.
     */
    private static final class Row {
        final String name;
        final String thrown;
        final Call call;

        Row(String name, String thrown, Call call) {
            this.name = name;
            this.thrown = thrown;
            this.call = call;
        }
    }

    public static void main(String[] args) {
        settingRows();
        recordRows();
        auditRows();
        readingRows();
        riskRows();
        shownRows();
        for (int kind = 0; kind < 4; kind++) {
            for (int stage = 0; stage < Scene.STAGES; stage++) {
                for (Row row : ROWS) {
                    refuse(row, stage, (kind & 1) != 0, (kind & 2) != 0);
                }
            }
        }
        ROWS.clear();
        fullRows();
        for (int stage = 0; stage < Scene.STAGES; stage++) {
            for (Row row : ROWS) {
                refuseFull(row, stage);
            }
        }
        unfitStarts();
        Check.end();
    }

    private static void row(String thrown, String name, Call call) {
        ROWS.add(new Row(name, thrown, call));
    }

    private static void refuse(Row row, int stage, boolean comparing, boolean seeded) {
        char wanted = row.thrown.charAt(stage);
        Check.about("what is thrown at stage " + stage + (comparing ? ", comparing" : ", polling"));
        holds(row, wanted, () -> Scene.at(stage, comparing, seeded));
    }

    /** One object is read behind the call, another goes on, so that neither has more than 512 calls. */
    private static void holds(Row row, char wanted, Supplier<PollAudit> scene) {
        PollAudit x = scene.get();
        PollAudit y = scene.get();
        Check.same(row.name, nameOf(wanted), Check.answer(() -> row.call.on(x)));
        if (wanted != '-') {
            Check.same(row.name, nameOf(wanted), Check.answer(() -> row.call.on(y)));
            Check.about("A call that throws changes nothing");
            Check.same("what is read behind " + row.name, Scene.read(scene.get()), Scene.read(x));
            Check.same("what comes behind " + row.name, Scene.rest(scene.get()), Scene.rest(y));
        }
    }

    private static String nameOf(char letter) {
        switch (letter) {
            case 'I': return "throws.IndexOutOfBoundsException";
            case 'A': return "throws.IllegalArgumentException";
            case 'S': return "throws.IllegalStateException";
            case 'U': return "throws.UnsupportedOperationException";
            default: return "done";
        }
    }

    private static void settingRows() {
        row("AAAAAA", "candidate(-1)", x -> x.candidate(-1));
        row("AAAAAA", "candidate(1000001)", x -> x.candidate(1000001));
        row("AAAAAA", "candidate(least)", x -> x.candidate(LEAST));
        row("-SSSSS", "candidate(0)", x -> x.candidate(0));
        row("-SSSSS", "candidate(1000000)", x -> x.candidate(1000000));
        row("AAAAAA", "batch(0)", x -> x.batch(0));
        row("AAAAAA", "batch(4001)", x -> x.batch(4001));
        row("AAAAAA", "batch(most)", x -> x.batch(MOST));
        row("-SSSSS", "batch(1)", x -> x.batch(1));
        row("-SSSSS", "batch(4000)", x -> x.batch(4000));
        row("IIIIII", "set(-1, 0)", x -> x.set(-1, 0));
        row("IIIIII", "set(2, 1)", x -> x.set(2, 1));
        row("IIIIII", "set(2, 0)", x -> x.set(2, 0));
        row("AAAAAA", "set(0, 0)", x -> x.set(0, 0));
        row("AAAAAA", "set(0, 8)", x -> x.set(0, 8));
        row("AAAAAA", "set(1, 0)", x -> x.set(1, 0));
        row("AAAAAA", "set(1, 201)", x -> x.set(1, 201));
        row("-SSSSS", "set(0, 1)", x -> x.set(0, 1));
        row("-SSSSS", "set(0, 7)", x -> x.set(0, 7));
        row("-SSSSS", "set(1, 1)", x -> x.set(1, 1));
        row("-SSSSS", "set(1, 200)", x -> x.set(1, 200));
        row("IIIIII", "fraction(-1, 0, 0)", x -> x.fraction(-1, 0, 0));
        row("IIIIII", "fraction(2, 1, 2)", x -> x.fraction(2, 1, 2));
        row("AAAAAA", "fraction(0, 0, 1)", x -> x.fraction(0, 0, 1));
        row("AAAAAA", "fraction(0, 1, 0)", x -> x.fraction(0, 1, 0));
        row("AAAAAA", "fraction(0, -2, -1)", x -> x.fraction(0, -2, -1));
        row("AAAAAA", "fraction(0, 1, 1)", x -> x.fraction(0, 1, 1));
        row("AAAAAA", "fraction(0, 2, 1)", x -> x.fraction(0, 2, 1));
        row("AAAAAA", "fraction(0, 1, 1000001)", x -> x.fraction(0, 1, 1000001));
        row("-SSSSS", "fraction(0, 1, 1000000)", x -> x.fraction(0, 1, 1000000));
        row("AAAAAA", "fraction(1, 1, 1)", x -> x.fraction(1, 1, 1));
        row("AAAAAA", "fraction(1, 1, 2)", x -> x.fraction(1, 1, 2));
        row("AAAAAA", "fraction(1, 2, 0)", x -> x.fraction(1, 2, 0));
        row("AAAAAA", "fraction(1, 1000001, 1)", x -> x.fraction(1, 1000001, 1));
        row("-SSSSS", "fraction(1, 1000000, 999999)", x -> x.fraction(1, 1000000, 999999));
        row("AAAAAA", "digit(-1)", x -> x.digit(-1));
        row("AAAAAA", "digit(10)", x -> x.digit(10));
        row("-SSSSS", "digit(0)", x -> x.digit(0));
        row("-SSSSS", "digit(9)", x -> x.digit(9));
        row("AAAAAA", "coins(0, -1)", x -> x.coins(0, -1));
        row("AAAAAA", "coins(0, 33)", x -> x.coins(0, 33));
        row("------", "coins(0, 0)", x -> x.coins(0, 0));
        row("------", "coins(0, 32)", x -> x.coins(0, 32));
    }

    private static void recordRows() {
        row("IIIIII", "record(-1, 1, 0)", x -> x.record(-1, 1, 0));
        row("IIIIII", "record(5, 1, 0)", x -> x.record(5, 1, 0));
        row("IIIIII", "record(0, 0, 1)", x -> x.record(0, 0, 1));
        row("IIIIII", "record(0, -1, 1)", x -> x.record(0, -1, 1));
        row("IIIIII", "record(0, 6, 1)", x -> x.record(0, 6, 1));
        row("IIIIII", "record(4, 2, 1)", x -> x.record(4, 2, 1));
        row("IIIIII", "record(1, most, 1)", x -> x.record(1, MOST, 1));
        row("IIIIII", "record(0, 5, 2)", x -> x.record(0, 5, 2));
        row("IIIIII", "record(0, 5, -2)", x -> x.record(0, 5, -2));
        row("-SSSSS", "record(0, 5, 1)", x -> x.record(0, 5, 1));
        row("-SSSSS", "record(4, 1, -1)", x -> x.record(4, 1, -1));
    }

    private static void auditRows() {
        row("-SSSSS", "start(false, false)", x -> x.start(false, false));
        row("-SSSSS", "start(true, true)", x -> x.start(true, true));
        row("S-SSSS", "draw()", x -> x.draw());
        row("IIIIII", "see(-2)", x -> x.see(-2));
        row("IIIIII", "see(2)", x -> x.see(2));
        row("SS-SSS", "see(0)", x -> x.see(0));
        row("SS-SSS", "see(-1)", x -> x.see(-1));
        row("IIIIII", "counted(-1, 0)", x -> x.counted(-1, 0));
        row("IIIIII", "counted(2, 0)", x -> x.counted(2, 0));
        row("IIIIII", "counted(2, 6)", x -> x.counted(2, 6));
        row("AAAAAA", "counted(0, -1)", x -> x.counted(0, -1));
        row("AAAAAA", "counted(1, 6)", x -> x.counted(1, 6));
        row("SSSS-S", "counted(0, 0)", x -> x.counted(0, 0));
        row("SSSS-S", "counted(1, 5)", x -> x.counted(1, 5));
        row("------", "again()", x -> x.again());
    }

    private static void readingRows() {
        for (int wrong : new int[] {-1, LEAST, MOST}) {
            row("IIIIII", "told(" + wrong + ")", x -> x.told(wrong));
            row("IIIIII", "of(" + wrong + ", 0)", x -> x.of(wrong, 0));
            row("IIIIII", "of(0, " + wrong + ")", x -> x.of(0, wrong));
            row("IIIIII", "pair(" + wrong + ", 0)", x -> x.pair(wrong, 0));
            row("IIIIII", "pair(0, " + wrong + ")", x -> x.pair(0, wrong));
            row("IIIIII", "ballot(" + wrong + ", 0)", x -> x.ballot(wrong, 0));
            row("IIIIII", "ballot(0, " + wrong + ")", x -> x.ballot(0, wrong));
            row("IIIIII", "digest(1, " + wrong + ")", x -> x.digest(1, wrong));
        }
        row("IIIIII", "told(13)", x -> x.told(13));
        row("IIIIII", "of(2, 0)", x -> x.of(2, 0));
        row("IIIIII", "of(0, 4)", x -> x.of(0, 4));
        row("------", "of(1, 3)", x -> x.of(1, 3));
        row("IIIIII", "pair(1, 0)", x -> x.pair(1, 0));
        row("IIIIII", "pair(0, 3)", x -> x.pair(0, 3));
        row("I-----", "pair(0, 2)", x -> x.pair(0, 2));
        row("IIIIII", "ballot(5, 0)", x -> x.ballot(5, 0));
        row("IIIIII", "ballot(0, 4)", x -> x.ballot(0, 4));
        row("------", "ballot(4, 3)", x -> x.ballot(4, 3));
        row("IIIIII", "digest(1, 32)", x -> x.digest(1, 32));
        row("IIIIII", "digest(0, 32)", x -> x.digest(0, 32));
        row("AAAAAA", "digest(0, 31)", x -> x.digest(0, 31));
        row("AAAAAA", "digest(least, 0)", x -> x.digest(LEAST, 0));
        row("------", "digest(1, 0)", x -> x.digest(1, 0));
        row("------", "digest(most, 31)", x -> x.digest(MOST, 31));
    }

    private static void riskRows() {
        row("SIIIII", "risk(-1, 1, 1, 1, 2)", x -> x.risk(-1, 1, 1, 1, 2));
        row("SIIIII", "risk(1, 31, -1, -1, 0)", x -> x.risk(1, 31, -1, -1, 0));
        row("SAAAAA", "risk(0, -1, 1, 1, 2)", x -> x.risk(0, -1, 1, 1, 2));
        row("SAAAAA", "risk(0, 31, 1, 1, 2)", x -> x.risk(0, 31, 1, 1, 2));
        row("SAAAAA", "risk(0, 1, 0, 0, 0)", x -> x.risk(0, 1, 0, 0, 0));
        row("SAAAAA", "risk(0, 1, 0, 0, -1)", x -> x.risk(0, 1, 0, 0, -1));
        row("SAAAAA", "risk(0, 1, 0, 0, 20001)", x -> x.risk(0, 1, 0, 0, 20001));
        row("SAAAAA", "risk(0, 1, -1, 1, 2)", x -> x.risk(0, 1, -1, 1, 2));
        row("SAAAAA", "risk(0, 1, 1, -1, 2)", x -> x.risk(0, 1, 1, -1, 2));
        row("SAAAAA", "risk(0, 1, 3, 0, 2)", x -> x.risk(0, 1, 3, 0, 2));
        row("SAAAAA", "risk(0, 1, 0, 3, 2)", x -> x.risk(0, 1, 0, 3, 2));
        row("SAAAAA", "risk(0, 1, 3, -1, 2)", x -> x.risk(0, 1, 3, -1, 2));
        row("SAAAAA", "risk(0, 1, -1, 3, 2)", x -> x.risk(0, 1, -1, 3, 2));
        row("SAAAAA", "risk(0, 1, 2, 1, 2)", x -> x.risk(0, 1, 2, 1, 2));
        row("SAAAAA", "risk(0, 1, most, most, 20000)", x -> x.risk(0, 1, MOST, MOST, 20000));
        row("SAAAAA", "risk(0, 1, 1, most, 20000)", x -> x.risk(0, 1, 1, MOST, 20000));
        row("S-----", "risk(0, 0, 0, 0, 1)", x -> x.risk(0, 0, 0, 0, 1));
        row("S-----", "risk(0, 30, 10000, 10000, 20000)", x -> x.risk(0, 30, 10000, 10000, 20000));
    }

    private static void shownRows() {
        row("IIIIII", "show(-1, 0)", x -> x.show(-1, 0));
        row("IIIIII", "show(5, 0)", x -> x.show(5, 0));
        row("IIIIII", "show(5, 9)", x -> x.show(5, 9));
        row("S-----", "show(0, 0)", x -> x.show(0, 0));
        row("SIIIII", "show(0, 1)", x -> x.show(0, 1));
        row("SIIIII", "show(0, -1)", x -> x.show(0, -1));
        row("S-----", "show(1, 9)", x -> x.show(1, 9));
        row("S-----", "show(2, 0)", x -> x.show(2, 0));
        row("SIIIII", "show(2, 1)", x -> x.show(2, 1));
        row("SIIIII", "show(2, -1)", x -> x.show(2, -1));
        row("S-----", "show(3, -9)", x -> x.show(3, -9));
        row("------", "show(4, 9)", x -> x.show(4, 9));
        row("IIIIII", "size(-1)", x -> x.size(-1));
        row("IIIIII", "size(2)", x -> x.size(2));
        row("------", "size(0)", x -> x.size(0));
        row("IIIIII", "limb(-1, 0)", x -> x.limb(-1, 0));
        row("IIIIII", "limb(2, 0)", x -> x.limb(2, 0));
        row("IIIIII", "limb(0, 0)", x -> x.limb(0, 0));
        row("IIIIII", "limb(1, 1)", x -> x.limb(1, 1));
        row("IIIIII", "limb(1, -1)", x -> x.limb(1, -1));
        row("IIIIII", "limb(1, most)", x -> x.limb(1, MOST));
        row("------", "limb(1, 0)", x -> x.limb(1, 0));
    }

    /** With 8 candidates, 64 batches, 20 digits and 4000 coins there is no room. */
    private static void fullRows() {
        row("USSSSS", "candidate(0)", x -> x.candidate(0));
        row("AAAAAA", "candidate(-1)", x -> x.candidate(-1));
        row("USSSSS", "batch(1)", x -> x.batch(1));
        row("AAAAAA", "batch(4001)", x -> x.batch(4001));
        row("USSSSS", "digit(0)", x -> x.digit(0));
        row("AAAAAA", "digit(10)", x -> x.digit(10));
        row("UUUUUU", "coins(1, 1)", x -> x.coins(1, 1));
        row("UUUUUU", "coins(1, 32)", x -> x.coins(1, 32));
        row("AAAAAA", "coins(1, 33)", x -> x.coins(1, 33));
        row("AAAAAA", "coins(1, -1)", x -> x.coins(1, -1));
        row("------", "coins(1, 0)", x -> x.coins(1, 0));
    }

    private static void refuseFull(Row row, int stage) {
        char wanted = row.thrown.charAt(stage);
        Check.about("no room, at stage " + stage);
        holds(row, wanted, () -> full(stage));
    }

    private static PollAudit full(int stage) {
        PollAudit x = new PollAudit();
        for (int b = 0; b < 64; b++) {
            x.batch(1);
        }
        x.candidate(64);
        for (int c = 1; c < 8; c++) {
            x.candidate(0);
        }
        for (int d = 0; d < 20; d++) {
            x.digit(d % 10);
        }
        x.set(1, 1);
        if (stage == 3) {
            x.fraction(0, 1, 2);
        }
        if (stage > 0) {
            x.start(false, true);
        }
        if (stage > 1) {
            x.draw();
        }
        if (stage > 2) {
            x.see(stage == 3 ? 0 : -1);
        }
        for (int c = 0; stage > 4 && c < 8; c++) {
            x.counted(c, c);
        }
        for (int i = 0; i < 125; i++) {
            x.coins(0x2b0f5a17 * i, 32);
        }
        Check.due("the full scene's stage", stage, () -> x.told(0));
        Check.due("the full scene's coins", 4000, () -> x.told(7));
        return x;
    }

    /** What start refuses while SETTING: it changes nothing either. */
    private static void unfitStarts() {
        Check.about("start: IllegalStateException");
        unfit("start with nothing", x -> { });
        unfit("start with no candidate", x -> Scene.addBallots(x, 5));
        unfit("start with one candidate", x -> withVotes(x, 5, 3));
        unfit("start with as many that win", x -> {
            withVotes(x, 5, 3, 1);
            x.set(0, 2);
        });
        unfit("start with more that win", x -> {
            withVotes(x, 5, 3, 1);
            x.set(0, 7);
        });
        unfit("start with a tie", x -> withVotes(x, 5, 3, 3));
        unfit("start with a vote above N", x -> withVotes(x, 5, 6, 1));
        unfit("start with no ballots", x -> withVotes(x, 0, 3, 1));
        holds(new Row("start with no seed", "S", x -> x.start(false, true)), 'S', Scene::small);
    }

    private static void withVotes(PollAudit x, int ballots, int... votes) {
        Scene.addBallots(x, ballots);
        for (int v : votes) {
            x.candidate(v);
        }
    }

    private static void unfit(String name, Call setting) {
        for (int kind = 0; kind < 4; kind++) {
            boolean comparing = (kind & 1) != 0;
            boolean seeded = (kind & 2) != 0;
            holds(new Row(name, "S", x -> x.start(comparing, seeded)), 'S', () -> {
                PollAudit x = new PollAudit();
                x.digit(5);
                setting.on(x);
                return x;
            });
        }
    }
}
