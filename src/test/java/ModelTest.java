import java.util.Random;

/** Runs of calls on an object and on the model, from numbered seeds: every answer must be the same. */
final class ModelTest {
    private static final int RUNS = 700, CALLS = 512;
    private static final int[] ODD = {
        Integer.MIN_VALUE, -33, -2, -1, 0, 1, 2, 7, 8, 9, 13, 32, 33, 200, 201, 4000, 4001, 20000, 1000001, Integer.MAX_VALUE};

    private final Random random;
    private final int run;
    private final PollAudit audit = new PollAudit();
    private final Model model = new Model();
    private final int largestBatch;
    private final int honesty;
    private int calls = 0;

    private ModelTest(int run) {
        this.run = run;
        random = new Random(run * 7919L + 1);
        largestBatch = new int[] {1, 3, 20, 300, 4000}[random.nextInt(5)];
        honesty = random.nextInt(11);
    }

    public static void main(String[] args) {
        for (int run = 0; run < RUNS && Check.wrongSoFar() == 0; run++) {
            new ModelTest(run).play();
        }
        Check.end();
    }

    private void play() {
        setUp();
        while (calls < CALLS && Check.wrongSoFar() == 0) {
            if (random.nextInt(60) == 0) {
                again();
                setUp();
            } else if (random.nextInt(3) == 0) {
                strayCall();
            } else {
                usefulCall();
            }
        }
    }

    private int up(int many) {
        return many < 1 ? 0 : random.nextInt(many);
    }

    /** Mostly a number within the range, at times one beside it. */
    private int near(int many) {
        int kind = random.nextInt(12);
        return kind == 0 ? many : kind == 1 ? -1 : kind == 2 ? ODD[up(ODD.length)] : up(many);
    }

    private void setUp() {
        for (int i = random.nextInt(3); i >= 0; i--) {
            int size = 1 + up(largestBatch);
            same("batch " + size, () -> audit.batch(size), () -> model.batch(size));
        }
        int ballots = model.told(3);
        int candidates = model.told(1) < 2 ? 2 + up(7) : up(2);
        for (int i = 0; i < candidates; i++) {
            int votes = random.nextInt(6) == 0 ? 0 : up(ballots + 1);
            same("candidate " + votes, () -> audit.candidate(votes), () -> model.candidate(votes));
        }
        int winners = 1 + up(Math.max(1, model.told(1) - 1));
        int cap = random.nextBoolean() ? 200 : 1 + up(60);
        same("set 0 " + winners, () -> audit.set(0, winners), () -> model.set(0, winners));
        same("set 1 " + cap, () -> audit.set(1, cap), () -> model.set(1, cap));
        limits();
        for (int i = 0; i < 6; i++) {
            record(up(ballots), 1 + up(ballots), near(model.told(1)));
        }
        if (random.nextInt(3) != 0) {
            digit(up(10));
        }
        start();
        if (model.told(0) == 0) {
            addWinner();
            start();
        }
    }

    /** So that a tie is rare: one more with all votes. */
    private void addWinner() {
        int votes = model.told(3);
        same("candidate " + votes, () -> audit.candidate(votes), () -> model.candidate(votes));
        same("set 0 1", () -> audit.set(0, 1), () -> model.set(0, 1));
    }

    private void limits() {
        int low = 2 + up(random.nextBoolean() ? 1000000 - 1 : 30);
        int share = random.nextInt(4) == 0 ? 1 : 1 + up(low - 1);
        fraction(0, share, low);
        if (random.nextBoolean()) {
            fraction(1, low, share);
        }
    }

    private void usefulCall() {
        switch (model.told(0)) {
            case 0:
                start();
                break;
            case 1:
                if (model.told(7) < model.told(11)) {
                    coins(random.nextInt(), 32);
                }
                same("draw", () -> audit.draw(), () -> model.draw());
                break;
            case 2:
                int read = model.ballot(model.told(10), 1);
                see(random.nextInt(10) < honesty ? read : up(model.told(1) + 1) - 1);
                break;
            case 4:
                int candidate = up(model.told(1));
                int votes = random.nextBoolean() ? model.of(candidate, 0) : up(model.told(3) + 1);
                counted(candidate, votes);
                break;
            default:
                look();
                break;
        }
    }

    private void look() {
        int pairs = model.told(8);
        switch (random.nextInt(9)) {
            case 0: told(near(13)); break;
            case 1: of(near(model.told(1)), near(4)); break;
            case 2: pairOf(near(pairs), near(3)); break;
            case 3: ballotOf(near(model.told(3)), near(4)); break;
            case 4: digest(random.nextInt(4) == 0 ? near(30) : 1 + up(Integer.MAX_VALUE), near(32)); break;
            case 5: risk(near(pairs)); break;
            case 6: show(near(5), near(pairs)); break;
            case 7: wholeFraction(up(5), up(pairs)); break;
            default: limb(near(2), near(4)); break;
        }
    }

    private void strayCall() {
        switch (random.nextInt(14)) {
            case 0: int c = near(1000000); same("candidate " + c, () -> audit.candidate(c), () -> model.candidate(c)); break;
            case 1: int b = near(9); same("batch " + b, () -> audit.batch(b), () -> model.batch(b)); break;
            case 2:
                int what = near(2);
                int v = near(9);
                same("set " + what + " " + v, () -> audit.set(what, v), () -> model.set(what, v));
                break;
            case 3: fraction(near(2), near(1000), near(1000)); break;
            case 4: record(near(model.told(3)), near(5), near(model.told(1))); break;
            case 5: digit(near(10)); break;
            case 6: coins(random.nextInt(), near(33)); break;
            case 7: start(); break;
            case 8: same("draw", () -> audit.draw(), () -> model.draw()); break;
            case 9: see(near(model.told(1))); break;
            case 10: counted(near(model.told(1)), near(model.told(3) + 1)); break;
            default: look(); break;
        }
    }

    private void again() {
        same("again", () -> {
            audit.again();
            return 0;
        }, () -> {
            model.again();
            return 0;
        });
    }

    private void fraction(int what, int up, int low) {
        same("fraction " + what + " " + up + " " + low, () -> {
            audit.fraction(what, up, low);
            return 0;
        }, () -> {
            model.fraction(what, up, low);
            return 0;
        });
    }

    private void record(int ballot, int many, int candidate) {
        same("record " + ballot + " " + many + " " + candidate, () -> {
            audit.record(ballot, many, candidate);
            return 0;
        }, () -> {
            model.record(ballot, many, candidate);
            return 0;
        });
    }

    private void start() {
        boolean comparing = random.nextBoolean();
        boolean seeded = random.nextBoolean();
        same("start " + comparing + " " + seeded, () -> {
            audit.start(comparing, seeded);
            return 0;
        }, () -> {
            model.start(comparing, seeded);
            return 0;
        });
    }

    private void digit(int d) {
        same("digit " + d, () -> audit.digit(d), () -> model.digit(d));
    }

    private void coins(int bits, int n) {
        same("coins " + bits + " " + n, () -> audit.coins(bits, n), () -> model.coins(bits, n));
    }

    private void see(int candidate) {
        same("see " + candidate, () -> audit.see(candidate), () -> model.see(candidate));
    }

    private void counted(int candidate, int votes) {
        same("counted " + candidate + " " + votes, () -> audit.counted(candidate, votes), () -> model.counted(candidate, votes));
    }

    private void told(int what) {
        same("told " + what, () -> audit.told(what), () -> model.told(what));
    }

    private void of(int candidate, int what) {
        same("of " + candidate + " " + what, () -> audit.of(candidate, what), () -> model.of(candidate, what));
    }

    private void pairOf(int k, int what) {
        same("pair " + k + " " + what, () -> audit.pair(k, what), () -> model.pair(k, what));
    }

    private void ballotOf(int ballot, int what) {
        same("ballot " + ballot + " " + what, () -> audit.ballot(ballot, what), () -> model.ballot(ballot, what));
    }

    private void digest(int n, int i) {
        same("digest " + n + " " + i, () -> audit.digest(n, i), () -> model.digest(n, i));
    }

    private void risk(int k) {
        int n = near(31);
        int z = random.nextInt(8) == 0 ? near(20001) : 1 + up(random.nextBoolean() ? 20000 : 10);
        int x = near(z);
        int y = random.nextBoolean() ? z - x : near(z - x);
        String name = "risk " + k + " " + n + " " + x + " " + y + " " + z;
        same(name, () -> audit.risk(k, n, x, y, z), () -> model.risk(k, n, x, y, z));
    }

    private void show(int what, int k) {
        same("show " + what + " " + k, () -> audit.show(what, k), () -> model.show(what, k));
    }

    private void limb(int part, int i) {
        same("size " + part, () -> audit.size(part), () -> model.size(part));
        same("limb " + part + " " + i, () -> audit.limb(part, i), () -> model.limb(part, i));
    }

    private void wholeFraction(int what, int k) {
        show(what, k);
        for (int part = 0; part < 2; part++) {
            for (int i = 0; i <= model.size(part); i++) {
                limb(part, i);
            }
        }
    }

    /** What an object answers behind its 512th call is free, so none is made. */
    private void same(String call, java.util.concurrent.Callable<Object> got, java.util.concurrent.Callable<Object> want) {
        if (calls >= CALLS) {
            return;
        }
        calls++;
        Check.same("run " + run + ", call " + calls + ", " + call, Check.answer(want), Check.answer(got));
    }
}
