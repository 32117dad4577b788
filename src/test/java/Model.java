import java.math.BigInteger;
import java.nio.charset.StandardCharsets;
import java.security.MessageDigest;
import java.security.NoSuchAlgorithmException;
import java.util.ArrayDeque;
import java.util.ArrayList;
import java.util.HashMap;
import java.util.HashSet;
import java.util.List;
import java.util.Map;

/**
 * The document once more, as slow and as literal as can be: fractions are made anew from all draws
 * whenever they are wanted, the odds draw by draw, the digest by the library.
 */
final class Model {
    private final List<Integer> votes = new ArrayList<>();
    private final List<Integer> batches = new ArrayList<>();
    private final List<Integer> records = new ArrayList<>();
    private final ArrayDeque<Integer> coins = new ArrayDeque<>();
    private final List<Integer> draws = new ArrayList<>();
    private final Map<Integer, Integer> seen = new HashMap<>();
    private final Map<Integer, Integer> full = new HashMap<>();
    private final List<int[]> pairs = new ArrayList<>();
    private final HashSet<Integer> winners = new HashSet<>();
    private final int[] wanted = {1, 100};
    private final long[][] fractions = {{1, 10}, {11, 10}};
    private String seed = "";
    private int stage = 0;
    private boolean comparing;
    private boolean seeded;
    private Ratio shown = new Ratio(BigInteger.ZERO, BigInteger.ONE);

    /** A fraction in lowest terms. */
    static final class Ratio {
        final BigInteger up;
        final BigInteger low;

        Ratio(BigInteger up, BigInteger low) {
            BigInteger common = up.gcd(low);
            this.up = up.divide(common).multiply(BigInteger.valueOf(low.signum()));
            this.low = low.divide(common).abs();
        }

        static Ratio of(long up, long low) {
            return new Ratio(BigInteger.valueOf(up), BigInteger.valueOf(low));
        }

        Ratio times(Ratio other) {
            return new Ratio(up.multiply(other.up), low.multiply(other.low));
        }

        Ratio over(Ratio other) {
            return new Ratio(up.multiply(other.low), low.multiply(other.up));
        }

        Ratio minus(Ratio other) {
            return new Ratio(up.multiply(other.low).subtract(other.up.multiply(low)), low.multiply(other.low));
        }

        int compareTo(Ratio other) {
            return up.multiply(other.low).compareTo(other.up.multiply(low));
        }
    }

    private static void bad(boolean when) {
        if (when) {
            throw new IllegalArgumentException();
        }
    }

    private static void none(boolean when) {
        if (when) {
            throw new IndexOutOfBoundsException();
        }
    }

    private static void state(boolean when) {
        if (when) {
            throw new IllegalStateException();
        }
    }

    private static void room(boolean when) {
        if (when) {
            throw new UnsupportedOperationException();
        }
    }

    int candidate(int v) {
        bad(v < 0 || v > 1000000);
        state(stage != 0);
        room(votes.size() == 8);
        votes.add(v);
        return votes.size() - 1;
    }

    int batch(int size) {
        bad(size < 1 || size > 4000);
        state(stage != 0);
        room(batches.size() == 64 || records.size() + size > 20000);
        int first = records.size();
        for (int i = 0; i < size; i++) {
            records.add(-1);
        }
        batches.add(size);
        return first;
    }

    int set(int what, int v) {
        none(what < 0 || what > 1);
        bad(v < 1 || v > (what == 0 ? 7 : 200));
        state(stage != 0);
        int before = wanted[what];
        wanted[what] = v;
        return before;
    }

    void fraction(int what, int up, int low) {
        none(what < 0 || what > 1);
        bad(up < 1 || low < 1 || up > 1000000 || low > 1000000);
        bad(what == 0 && up >= low || what == 1 && up <= low);
        state(stage != 0);
        fractions[what] = new long[] {up, low};
    }

    void record(int ballot, int many, int candidate) {
        none(ballot < 0 || ballot >= records.size() || many < 1 || (long) ballot + many > records.size());
        none(candidate < -1 || candidate >= votes.size());
        state(stage != 0);
        for (int i = 0; i < many; i++) {
            records.set(ballot + i, candidate);
        }
    }

    int digit(int d) {
        bad(d < 0 || d > 9);
        state(stage != 0);
        room(seed.length() == 20);
        seed += d;
        return seed.length();
    }

    int coins(int bits, int n) {
        bad(n < 0 || n > 32);
        room(coins.size() + n > 4000);
        String text = String.format("%32s", Integer.toBinaryString(bits)).replace(' ', '0').substring(32 - n);
        for (char c : text.toCharArray()) {
            coins.add(c - '0');
        }
        return coins.size();
    }

    void start(boolean byComparing, boolean bySeed) {
        state(stage != 0 || votes.size() < 2 || wanted[0] >= votes.size() || records.isEmpty());
        state(bySeed && seed.isEmpty());
        List<Integer> order = new ArrayList<>();
        for (int c = 0; c < votes.size(); c++) {
            state(votes.get(c) > records.size());
            order.add(c);
        }
        order.sort((a, b) -> votes.get(b) - votes.get(a));
        state(votes.get(order.get(wanted[0] - 1)).equals(votes.get(order.get(wanted[0]))));
        winners.clear();
        winners.addAll(order.subList(0, wanted[0]));
        pairs.clear();
        for (int w = 0; w < votes.size(); w++) {
            for (int l = 0; l < votes.size(); l++) {
                if (winners.contains(w) && !winners.contains(l)) {
                    pairs.add(new int[] {w, l});
                }
            }
        }
        comparing = byComparing;
        seeded = bySeed;
        stage = 1;
    }

    int draw() {
        state(stage != 1);
        int drawn;
        if (seeded) {
            byte[] bytes = hash(draws.size() + 1);
            drawn = new BigInteger(1, bytes).mod(BigInteger.valueOf(records.size())).intValue();
        } else {
            if (coins.size() < coinsADraw()) {
                return -1;
            }
            StringBuilder bits = new StringBuilder("0");
            for (int i = coinsADraw(); i > 0; i--) {
                bits.append(coins.remove());
            }
            drawn = Integer.parseInt(bits.toString(), 2);
            drawn = drawn < records.size() ? drawn : -2;
        }
        draws.add(drawn);
        if (drawn == -2 || seen.containsKey(drawn)) {
            judge();
        } else {
            stage = 2;
        }
        return drawn;
    }

    int see(int candidate) {
        none(candidate < -1 || candidate >= votes.size());
        state(stage != 2);
        seen.put(draws.get(draws.size() - 1), candidate);
        judge();
        return stage;
    }

    int counted(int candidate, int v) {
        none(candidate < 0 || candidate >= votes.size());
        bad(v < 0 || v > records.size());
        state(stage != 4);
        full.put(candidate, v);
        if (full.size() == votes.size()) {
            stage = 5;
        }
        return full.size();
    }

    void again() {
        stage = 0;
        draws.clear();
        seen.clear();
        full.clear();
        coins.clear();
        pairs.clear();
    }

    int told(int what) {
        none(what < 0 || what > 12);
        switch (what) {
            case 0: return stage;
            case 1: return votes.size();
            case 2: return batches.size();
            case 3: return records.size();
            case 4: return draws.size();
            case 5: return seen.size();
            case 6: return (int) draws.stream().filter(d -> d == -2).count();
            case 7: return coins.size();
            case 8: return pairs.size();
            case 9: return (int) pairs.stream().filter(p -> sureWith(p) > 0).count();
            case 10: return stage == 2 ? draws.get(draws.size() - 1) : -1;
            case 11: return coinsADraw();
            default: return stage == 5 && pairs.stream().allMatch(p -> full.get(p[0]) > full.get(p[1])) ? 1 : 0;
        }
    }

    int of(int candidate, int what) {
        none(candidate < 0 || candidate >= votes.size() || what < 0 || what > 3);
        switch (what) {
            case 0: return votes.get(candidate);
            case 1: return stage != 0 && winners.contains(candidate) ? 1 : 0;
            case 2: return (int) draws.stream().filter(d -> seen.getOrDefault(d, -1) == candidate).count();
            default: return full.getOrDefault(candidate, -1);
        }
    }

    int pair(int k, int what) {
        none(k < 0 || k >= pairs.size() || what < 0 || what > 2);
        return what < 2 ? pairs.get(k)[what] : sureWith(pairs.get(k));
    }

    int ballot(int ballot, int what) {
        none(ballot < 0 || ballot >= records.size() || what < 0 || what > 3);
        switch (what) {
            case 0:
                int batch = 0;
                for (int left = ballot; left >= batches.get(batch); batch++) {
                    left -= batches.get(batch);
                }
                return batch;
            case 1: return records.get(ballot);
            case 2: return seen.getOrDefault(ballot, -2);
            default: return (int) draws.stream().filter(d -> d == ballot).count();
        }
    }

    int digest(int n, int i) {
        none(i < 0 || i > 31);
        bad(n < 1);
        return hash(n)[i] & 255;
    }

    int risk(int k, int n, int x, int y, int z) {
        state(stage == 0);
        none(k < 0 || k >= pairs.size());
        bad(n < 0 || n > 30 || z < 1 || z > 20000 || x < 0 || y < 0 || (long) x + y > z);
        BigInteger rows = weight(pairs.get(k), new int[] {n, 0, 0}, new int[] {x, y, z}, new HashMap<>());
        shown = new Ratio(rows, BigInteger.valueOf(z).pow(n));
        return shown.compareTo(limit()) > 0 ? 1 : 0;
    }

    boolean show(int what, int k) {
        none(what < 0 || what > 4);
        state(stage == 0 && what < 4);
        none((what == 0 || what == 2) && (k < 0 || k >= pairs.size()));
        switch (what) {
            case 0: shown = comparing ? Ratio.of(1, 1) : polled(pairs.get(k), draws.size()); break;
            case 1: shown = comparing ? compared() : Ratio.of(1, 1); break;
            case 2:
                long w = votes.get(pairs.get(k)[0]);
                shown = Ratio.of(w, w + votes.get(pairs.get(k)[1]));
                break;
            case 3: shown = Ratio.of(margin(), records.size()); break;
            default: shown = limit(); break;
        }
        return shown.compareTo(Ratio.of(1, 1)) >= 0;
    }

    String shownAs() {
        return shown.up + "/" + shown.low;
    }

    int size(int part) {
        none(part < 0 || part > 1);
        return ((part == 0 ? shown.up : shown.low).bitLength() + 31) / 32;
    }

    int limb(int part, int i) {
        none(i < 0 || i >= size(part));
        return (part == 0 ? shown.up : shown.low).shiftRight(32 * i).intValue();
    }

    private Ratio limit() {
        return Ratio.of(fractions[0][0], fractions[0][1]);
    }

    private int coinsADraw() {
        int k = 0;
        while (1 << k < records.size()) {
            k++;
        }
        return k;
    }

    private byte[] hash(int n) {
        try {
            return MessageDigest.getInstance("SHA-256").digest((seed + "," + n).getBytes(StandardCharsets.US_ASCII));
        } catch (NoSuchAlgorithmException e) {
            throw new AssertionError(e);
        }
    }

    private void judge() {
        boolean confirmed = comparing ? compared().compareTo(limit()) <= 0
            : pairs.stream().allMatch(p -> sureWith(p) > 0);
        stage = confirmed ? 3 : draws.size() == wanted[1] ? 4 : 1;
    }

    private Ratio step(int[] pair, int candidate) {
        long w = votes.get(pair[0]);
        long l = votes.get(pair[1]);
        return candidate == pair[0] ? Ratio.of(2 * w, w + l) : candidate == pair[1] ? Ratio.of(2 * l, w + l) : Ratio.of(1, 1);
    }

    private Ratio polled(int[] pair, int many) {
        Ratio t = Ratio.of(1, 1);
        for (int i = 0; i < many; i++) {
            t = t.times(step(pair, seen.getOrDefault(draws.get(i), -1)));
        }
        return t;
    }

    private int sureWith(int[] pair) {
        Ratio t = Ratio.of(1, 1);
        for (int i = 0; i < draws.size() && !comparing; i++) {
            t = t.times(step(pair, seen.getOrDefault(draws.get(i), -1)));
            if (t.compareTo(Ratio.of(1, 1).over(limit())) >= 0) {
                return i + 1;
            }
        }
        return -1;
    }

    private int margin() {
        return pairs.stream().mapToInt(p -> votes.get(p[0]) - votes.get(p[1])).min().getAsInt();
    }

    private Ratio compared() {
        Ratio twoGamma = Ratio.of(2 * fractions[1][0], fractions[1][1]);
        Ratio one = Ratio.of(1, 1);
        Ratio m = Ratio.of(margin(), 1);
        Ratio top = one.minus(one.over(twoGamma.times(Ratio.of(records.size(), 1)).over(m)));
        BigInteger up = BigInteger.ONE;
        BigInteger low = BigInteger.ONE;
        for (int drawn : draws) {
            if (drawn == -2 || seen.containsKey(drawn)) {
                Ratio factor = top.over(one.minus(error(drawn).times(m).over(twoGamma)));
                up = up.multiply(factor.up);
                low = low.multiply(factor.low);
            }
        }
        return new Ratio(up, low);
    }

    private Ratio error(int drawn) {
        if (drawn == -2) {
            return Ratio.of(0, 1);
        }
        Ratio most = null;
        int r = records.get(drawn);
        int s = seen.get(drawn);
        for (int[] p : pairs) {
            int e = is(r, p[0]) - is(s, p[0]) - is(r, p[1]) + is(s, p[1]);
            Ratio its = Ratio.of(e, votes.get(p[0]) - votes.get(p[1]));
            most = most == null || its.compareTo(most) > 0 ? its : most;
        }
        return most;
    }

    private static int is(int a, int b) {
        return a == b ? 1 : 0;
    }

    // at: how many draws are left, how many were for the winner, for the loser.
    private BigInteger weight(int[] pair, int[] at, int[] xyz, Map<Integer, BigInteger> known) {
        int key = at[0] * 10000 + at[1] * 100 + at[2];
        BigInteger all = known.get(key);
        if (all != null) {
            return all;
        }
        Ratio won = step(pair, pair[0]);
        Ratio lost = step(pair, pair[1]);
        BigInteger up = won.up.pow(at[1]).multiply(lost.up.pow(at[2]));
        BigInteger low = won.low.pow(at[1]).multiply(lost.low.pow(at[2]));
        if (new Ratio(up, low).times(limit()).compareTo(Ratio.of(1, 1)) >= 0) {
            all = BigInteger.valueOf(xyz[2]).pow(at[0]);
        } else if (at[0] == 0) {
            all = BigInteger.ZERO;
        } else {
            all = BigInteger.valueOf(xyz[0]).multiply(weight(pair, new int[] {at[0] - 1, at[1] + 1, at[2]}, xyz, known));
            all = all.add(BigInteger.valueOf(xyz[1])
                .multiply(weight(pair, new int[] {at[0] - 1, at[1], at[2] + 1}, xyz, known)));
            all = all.add(BigInteger.valueOf(xyz[2] - xyz[0] - xyz[1])
                .multiply(weight(pair, new int[] {at[0] - 1, at[1], at[2]}, xyz, known)));
        }
        known.put(key, all);
        return all;
    }
}
