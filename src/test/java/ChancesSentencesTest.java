/** Promises 25 to 27: each sentence that names an edge of chances, of when to be heard, of weeks. */
public final class ChancesSentencesTest extends Sentences {
    private static final long LONG_BAD = -9223372036854775806L;

    public static void main(String[] args) {
        whoseChance();
        chance();
        fractions();
        whoIsHeard();
        heard();
        whoseWeeks();
        weeks();
        lots();
        end();
    }

    private static void dueChance(long above, long below, DogJudge x, int c, int heir, int day) {
        due(above, x.chance(c, heir, day, 0));
        due(below, x.chance(c, heir, day, 1));
    }

    private static void whoseChance() {
        sentence(25, "CHANCE: above, below. BAD.", () -> {
            DogJudge x = come(heirs("010"), 0, 0, COAT);
            due(LONG_BAD, x.chance(4, 0, 0, -1));
            due(LONG_BAD, x.chance(4, 0, 0, 2));
            due(LONG_BAD, x.chance(4, 0, 0, LEAST));
            due(LONG_BAD, x.chance(4, 0, 0, MOST));
            due(LONG_BAD, x.chance(4, -1, 0, 0));
            due(LONG_BAD, x.chance(4, 1, 0, 0));
            due(LONG_BAD, x.chance(4, LEAST, 0, 0));
            due(LONG_BAD, x.chance(4, MOST, 0, 0));
            due(LONG_BAD, new DogJudge().chance(4, 0, 0, 0));
            due(LONG_BAD, heirs(SIX_HEIRS).chance(4, 6, 0, 0));
            dueChance(0, 1, heirs(SIX_HEIRS), 4, 5, 0);
        });
        sentence(25, "With a FAULT there are none.", () -> due(LONG_BAD, heirs("010;").chance(4, 0, 0, 0)));
        sentence(25, "(A refusal -x is the least long and x more.)", () ->
            due(LONG_BAD, new DogJudge().chance(0, 0, 0, 0)));
        sentence(25, "Where the answer is a long, a refusal -x is the least long and x more.", () ->
            due(Long.MIN_VALUE + 2, heirs("010").chance(17, 0, 0, 0)));
    }

    private static void chance() {
        sentence(25, "on each DAY up to a told one (0 to 9)", () -> {
            DogJudge x = come(heirs("010"), 9, 0, COAT);
            dueChance(0, 1, x, 4, 0, 0);
            dueChance(0, 1, x, 4, 0, 8);
            dueChance(3, 4, x, 4, 0, 9);
            due(LONG_BAD, x.chance(4, 0, -1, 0));
            due(LONG_BAD, x.chance(4, 0, 10, 0));
            due(LONG_BAD, x.chance(4, 0, LEAST, 0));
            due(LONG_BAD, x.chance(4, 0, MOST, 0));
            dueChance(3, 4, come(heirs("010"), 0, 0, COAT), 4, 0, 0);
            dueChance(3, 4, come(heirs("010"), 0, 0, COAT), 4, 0, 9);
        });
        sentence(25, "it SLEEPS by c sixteenths (0 to 16), by itself, in place of what is told", () -> {
            DogJudge x = come(heirs("010"), 0, 0, COAT, 1, 0, COAT);
            dueChance(1, 1, x, 0, 0, 1);
            dueChance(0, 1, x, 16, 0, 1);
            dueChance(255, 256, x, 1, 0, 1);
            dueChance(31, 256, x, 15, 0, 1);
            dueChance(15, 16, x, 4, 0, 1);
            due(LONG_BAD, x.chance(-1, 0, 0, 0));
            due(LONG_BAD, x.chance(17, 0, 0, 0));
            due(LONG_BAD, x.chance(LEAST, 0, 0, 0));
            due(LONG_BAD, x.chance(MOST, 0, 0, 0));
            x.set(SLEEPS, ALL_DAYS);
            dueChance(1, 1, x, 0, 0, 1);
            dueChance(15, 16, x, 4, 0, 1);
            due(ALL_DAYS, x.count(7));
            x.set(SLEEPS, 0);
            dueChance(0, 1, x, 16, 0, 0);
            x.taste(1, COAT, 0);
            dueChance(15, 16, x, 4, 0, 1);
        });
    }

    private static void fractions() {
        sentence(25, "FRACTIONS are told in lowest terms, above and below (0 by 1).", () -> {
            DogJudge x = heirs("010;020");
            for (int day = 0; day < 10; day++) x.visit(day, 0, COAT);
            dueChance(1023, 1024, x, 8, 0, 9);
            dueChance(1, 2, x, 8, 0, 0);
            dueChance(0, 1, x, 8, 1, 9);
            // The greatest number below: 16 by itself ten times.
            dueChance(1099511627775L, 1099511627776L, x, 1, 0, 9);
            dueChance(1099511627776L - 576650390625L, 1099511627776L, x, 15, 0, 9);
            // By 0 sixteenths it is sure, whatever the numbers.
            dueChance(1, 1, x, 0, 0, 9);
        });
    }

    private static void whoIsHeard() {
        sentence(26, "HEARD. BAD.", () -> {
            DogJudge x = heirs("010");
            due(0, x.heard(0, 0, 0, 0));
            due(0, x.heard(16, 0, 2, 9));
            due(BAD, x.heard(-1, -1, -1, -1));
            due(BAD, x.heard(17, 1, 3, 10));
        });
        sentence(26, "BAD -2 (a number not as told, no such thing)", () -> {
            DogJudge x = heirs("010");
            int[] wrongs = {-1, LEAST, MOST};
            for (int wrong : wrongs) {
                due(BAD, x.heard(wrong, 0, 0, 0));
                due(BAD, x.heard(0, wrong, 0, 0));
                due(BAD, x.heard(0, 0, wrong, 0));
                due(BAD, x.heard(0, 0, 0, wrong));
            }
            due(BAD, x.heard(17, 0, 0, 0));
            due(BAD, x.heard(0, 1, 0, 0));
            due(BAD, x.heard(0, 0, 3, 0));
            due(BAD, x.heard(0, 0, 0, 10));
            due(0, x.heard(16, 0, 2, 9));
            due(BAD, new DogJudge().heard(0, 0, 0, 0));
            due(0, heirs(SIX_HEIRS).heard(0, 5, 0, 0));
            due(BAD, heirs(SIX_HEIRS).heard(0, 6, 0, 0));
        });
        sentence(26, "With a FAULT there are none.", () -> due(BAD, heirs("010;").heard(0, 0, 0, 0)));
    }

    private static void heard() {
        sentence(26, "of DAYS 0 to a told one", () -> {
            // A coat of 2 has faded to nothing a day later.
            DogJudge x = set(heirs("020"), FADES, 2);
            for (int day = 0; day < 10; day++) due(day, x.heard(4, 0, COAT, day));
            x.set(FADES, 1);
            due(0, x.heard(4, 0, COAT, 0));
            due(0, x.heard(4, 0, COAT, 1));
            due(1, x.heard(4, 0, COAT, 2));
            due(8, x.heard(4, 0, COAT, 9));
            DogJudge y = set(heirs("000;000;000;000;000;020"), FADES, 2);
            y.taste(1, COAT, 0);
            due(5, y.heard(4, 5, COAT, 5));
            due(0, y.heard(4, 4, COAT, 5));
        });
        sentence(26, "makes that CHANCE greatest, of like ones the first", () -> {
            due(0, heirs("010").heard(4, 0, COAT, 9));
            // Whatever it does, it is never found, or always.
            due(0, heirs("000").heard(4, 0, COAT, 9));
            due(0, heirs("010").heard(16, 0, COAT, 9));
            // With a coat on day 0 told, another day is better; day 0 itself is slept through as one.
            due(1, come(heirs("010"), 0, 0, COAT).heard(4, 0, COAT, 9));
            due(2, come(heirs("010"), 0, 0, COAT, 1, 0, COAT).heard(4, 0, COAT, 9));
            due(0, come(heirs("010"), 0, 0, COAT).heard(0, 0, COAT, 9));
        });
        sentence(26, "on which one VISIT more of an HEIR with a THING (told behind all others of it)", () -> {
            // Behind the other's sausage (4) its own is 3, on another day it is 6.
            DogJudge x = set(come(heirs("300;200"), 0, 1, SAUSAGE), HUNGER, 0);
            due(1, x.heard(0, 0, SAUSAGE, 1));
            due(1, x.heard(4, 0, SAUSAGE, 9));
            due(1, x.count(2));
        });
        sentence(26, "VISITS, 24 at most (0 on)", () -> {
            DogJudge x = fullOfVisits(set(heirs("020"), FADES, 2));
            due(5, x.heard(4, 0, COAT, 5));
            due(24, x.count(2));
        });
        sentence(26, "(0 to 16), by itself, in place of what is told", () -> {
            due(0, set(heirs("010"), SLEEPS, 1).heard(4, 0, COAT, 3));
            due(1, set(come(heirs("010"), 0, 0, COAT), SLEEPS, 2).heard(4, 0, COAT, 3));
        });
    }

    private static void whoseWeeks() {
        sentence(27, "WEEKS: who is FOUND (heir = NONE; NONE), behind how many DAYS an HEIR is. BAD.", () -> {
            DogJudge x = heirs("010");
            due(BAD, x.weeks(0, 1, -2));
            due(BAD, x.weeks(0, 1, 1));
            due(BAD, x.weeks(0, 1, LEAST));
            due(BAD, x.weeks(0, 1, MOST));
            due(0, heirs("111").weeks(0, 1, NONE));
            due(1, heirs("111").weeks(0, 1, 0));
            due(NONE, heirs("000").weeks(0, 30, NONE));
            due(0, heirs("000").weeks(0, 30, 0));
            due(BAD, heirs(SIX_HEIRS).weeks(0, 30, 6));
        });
        sentence(27, "(none, where there are no HEIRS)", () -> {
            due(NONE, new DogJudge().weeks(0, 1, NONE));
            due(NONE, new DogJudge().weeks(-1, 30, NONE));
            due(BAD, new DogJudge().weeks(0, 1, 0));
        });
        sentence(27, "With a FAULT there are none.", () -> {
            DogJudge x = heirs("111;");
            due(NONE, x.weeks(0, 30, NONE));
            due(BAD, x.weeks(0, 30, 0));
        });
    }

    private static void weeks() {
        sentence(27, "n (1 to 30) DAYS from 0 on", () -> {
            DogJudge x = heirs(SIX_HEIRS);
            due(BAD, x.weeks(0, 0, NONE));
            due(BAD, x.weeks(0, 31, NONE));
            due(BAD, x.weeks(0, -1, NONE));
            due(BAD, x.weeks(0, LEAST, NONE));
            due(BAD, x.weeks(0, MOST, NONE));
            // By seed 0 found are 0 (days 0 to 3), 4, 5, 5, 3, 3, then 4.
            int[] found = {0, 0, 0, 0, 4, 5, 5, 3, 3, 4};
            for (int n = 1; n <= 30; n++) due(found[Math.min(n, 10) - 1], x.weeks(0, n, NONE));
            int[] days = {4, 0, 0, 2, 22, 2};
            for (int heir = 0; heir < 6; heir++) due(days[heir], x.weeks(0, 30, heir));
            due(1, x.weeks(0, 1, 0));
            due(0, x.weeks(0, 1, 4));
            for (int thing = 0; thing < 3; thing++) x.taste(1, thing, 0);
            due(4, x.weeks(0, 30, NONE));
        });
        sentence(27, "with VISITS as told, too", () -> {
            // Seed 0 draws heir 0's stick for day 0, sausages of 0 for days 1 and 2, one of 1 for day 3.
            DogJudge x = come(heirs("111;040"), 0, 1, COAT);
            due(1, x.weeks(0, 1, NONE));
            due(1, x.weeks(0, 1, 1));
            due(0, come(heirs("111;040"), 1, 1, COAT).weeks(0, 1, NONE));
            due(0, set(heirs("111;040"), FADES, 9).weeks(0, 30, NONE));
            due(1, set(come(heirs("111;040"), 29, 1, COAT), FADES, 9).weeks(0, 30, NONE));
            due(11, fullOfVisits(heirs("111")).weeks(0, 11, 0));
        });
        sentence(27, "that one brings that, behind all others of the DAY", () -> {
            // Seed 1 draws heir 0's sausage: behind that of 1 it is 9 to 10, ahead it would be 18.
            due(1, come(heirs("900;500"), 0, 1, SAUSAGE).weeks(1, 1, NONE));
            due(0, come(heirs("900;400"), 0, 1, SAUSAGE).weeks(1, 1, NONE));
        });
        sentence(27, "on each a LOT of HEIRS, then a LOT of THINGS", () -> {
            // Also on a day that it sleeps: seed 0 draws for day 3 heir 1's sausage.
            DogJudge x = set(heirs("123;456"), SLEEPS, 7);
            due(NONE, x.weeks(0, 3, NONE));
            due(1, x.weeks(0, 4, NONE));
            due(1, x.weeks(0, 4, 1));
            due(0, x.weeks(0, 4, 0));
            // With one heir a lot of heirs is drawn all the same: things of seed 0 are a stick, then sausages.
            due(1, heirs("001").weeks(0, 1, 0));
            due(0, heirs("010").weeks(0, 4, 0));
            due(3, heirs("100").weeks(0, 4, 0));
        });
    }

    private static void lots() {
        sentence(27, "SEED becomes 1103515245 SEED and 12345, as ints that wrap", () -> {
            DogJudge x = heirs(SIX_HEIRS);
            due(5, x.weeks(MOST, 1, NONE));
            due(3, x.weeks(MOST, 8, NONE));
            due(29, x.weeks(MOST, 30, 5));
            due(2, x.weeks(LEAST, 1, NONE));
            due(25, x.weeks(LEAST, 30, 2));
            due(5, x.weeks(LEAST, 30, 4));
            due(1, x.weeks(-1, 1, NONE));
            due(25, x.weeks(-1, 30, 5));
        });
        sentence(27, "its upper 16 bits as a number from 0 on, modulo m", () -> {
            // Seed -1 becomes -1103502900: 48697 above, and 1 modulo 6; -2 becomes 2087949151: 31859 above.
            due(1, heirs("999;999;999;999;999;999").weeks(-1, 1, NONE));
            due(5, heirs("999;999;999;999;999;999").weeks(-2, 1, NONE));
            // The least int becomes -2147471303: 32768 above.
            due(2, heirs("999;999;999;999;999;999").weeks(LEAST, 1, NONE));
        });
    }
}
