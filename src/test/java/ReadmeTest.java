import java.io.IOException;
import java.math.BigInteger;
import java.nio.file.Files;
import java.nio.file.Path;
import java.util.ArrayList;
import java.util.Arrays;
import java.util.List;

/** The examples of README.md: they stand here line for line, so that they compile, and come to what is due. */
public final class ReadmeTest {
    private static int thrown = 0;

    public static void main(String[] args) throws IOException {
        pollingConfirms();
        comparingConfirms();
        examplesStandHere();
        Check.end();
    }

    private static int lookAt(int ballot) {
        if (ballot < 12) {
            return 0;
        }
        return ballot < 16 ? 1 : PollAudit.NONE;
    }

    // All numbers of so many coins in turn, so that BLANK ones are among them.
    private static int throwCoins(int many) {
        thrown += 7;
        return thrown & ((1 << many) - 1);
    }

    private static PollAudit polled() {
        PollAudit audit = new PollAudit();
        audit.batch(17);                        // ballots 0 .. 16
        audit.candidate(12);                    // candidate 0, with the votes that were reported
        audit.candidate(4);                     // candidate 1
        audit.set(1, 60);                       // at most 60 draws
        audit.fraction(0, 1, 20);               // the limit of the risk
        audit.digit(4);                         // the seed, a digit a call
        audit.digit(2);
        audit.start(false, true);               // polling (not comparing), by the seed (not by coins)
        while (audit.told(0) == 1) {
            int ballot = audit.draw();
            if (audit.told(0) == 2) {           // it was not seen before
                audit.see(lookAt(ballot));      // a candidate, or PollAudit.NONE
            }
        }
        if (audit.told(0) == 4) {               // not confirmed
            audit.counted(0, 12);               // the full count of each candidate
            audit.counted(1, 4);
        }
        return audit;
    }

    private static PollAudit compared() {
        PollAudit audit = new PollAudit();
        audit.batch(17);
        audit.candidate(12);
        audit.candidate(4);
        audit.record(0, 12, 0);                 // ballots 0 .. 11 were read as candidate 0
        audit.record(12, 4, 1);                 // 12 .. 15 as candidate 1, 16 as none
        audit.fraction(1, 11, 10);              // gamma
        audit.start(true, false);
        for (int throwing = 0; audit.told(0) == 1 && throwing < 100; throwing++) {
            audit.coins(throwCoins(5), 5);      // told(11) coins make a draw
            int ballot = audit.draw();          // PollAudit.BLANK: there is no such ballot; NONE: too few coins
            if (audit.told(0) == 2) {
                audit.see(lookAt(ballot));
            }
        }
        return audit;
    }

    private static void pollingConfirms() {
        Check.about("README: polling");
        PollAudit audit = polled();
        Check.due("the stage", 3, () -> audit.told(0));
        Check.due("sure ones", 1, () -> audit.told(9));
        Check.due("sure with the last draw", audit.told(4), () -> audit.pair(0, 2));
        Check.about("README: the odds");
        int above = audit.risk(0, 30, 1, 1, 2); // pair 0, 30 draws, each candidate with 1 / 2: 1 if above the limit
        BigInteger[] odds = new BigInteger[2];
        for (int part = 0; part < 2; part++) {
            odds[part] = BigInteger.ZERO;
            for (int i = audit.size(part) - 1; i >= 0; i--) {
                long limb = Integer.toUnsignedLong(audit.limb(part, i));
                odds[part] = odds[part].shiftLeft(32).add(BigInteger.valueOf(limb));
            }
        }
        Check.same("risk(0, 30, 1, 1, 2)", "0", String.valueOf(above));
        Check.same("the odds by all rows", oddsByRows(30), odds[0] + "/" + odds[1]);
    }

    // T goes by 3 / 2 and 1 / 2: rows of draws with 1 / 2 each, walked through from ever so many to one more.
    private static String oddsByRows(int draws) {
        BigInteger[] open = new BigInteger[draws + 2];
        Arrays.fill(open, BigInteger.ZERO);
        open[0] = BigInteger.ONE;
        BigInteger sure = BigInteger.ZERO;
        for (int m = 1; m <= draws; m++) {
            sure = sure.shiftLeft(1);
            for (int won = m; won >= 0; won--) {
                BigInteger here = open[won].add(won > 0 ? open[won - 1] : BigInteger.ZERO);
                boolean isSure = BigInteger.valueOf(3).pow(won).compareTo(BigInteger.valueOf(20).shiftLeft(m)) >= 0;
                sure = isSure ? sure.add(here) : sure;
                open[won] = isSure ? BigInteger.ZERO : here;
            }
        }
        BigInteger all = BigInteger.ONE.shiftLeft(draws);
        BigInteger common = sure.gcd(all);
        return sure.divide(common) + "/" + all.divide(common);
    }

    private static void comparingConfirms() {
        Check.about("README: comparing");
        PollAudit audit = compared();
        Check.due("the stage", 3, () -> audit.told(0));
        Check.due("coins of a draw", 5, () -> audit.told(11));
        Check.due("some are BLANK", true, () -> audit.told(6) > 0);
        Check.due("coins left", 0, () -> audit.told(7));
        // Nothing differs from its record, so each draw makes P times 1 - 8 / (2 * 17 * 11 / 10) = 147 / 187.
        Check.due("P is 1 or more", false, () -> audit.show(1, 0));
        int draws = audit.told(4);
        Scene.isShown("P", audit, BigInteger.valueOf(147).pow(draws), BigInteger.valueOf(187).pow(draws));
    }

    private static void examplesStandHere() throws IOException {
        Check.about("README: each example stands in ReadmeTest");
        String here = String.join("\n", bare(Files.readAllLines(Path.of("src/test/java/ReadmeTest.java"))));
        int examples = 0;
        List<String> example = null;
        for (String line : Files.readAllLines(Path.of("README.md"))) {
            if (line.equals("```java")) {
                example = new ArrayList<>();
            } else if (line.equals("```") && example != null) {
                String text = String.join("\n", bare(example));
                examples++;
                Check.same("example " + examples, "true", String.valueOf(here.contains(text)));
                example = null;
            } else if (example != null) {
                example.add(line);
            }
        }
        Check.same("examples", "3", String.valueOf(examples));
    }

    private static List<String> bare(List<String> lines) {
        List<String> stripped = new ArrayList<>();
        for (String line : lines) {
            stripped.add(line.strip());
        }
        return stripped;
    }
}
