/** Promises 12 to 17: each sentence that names an edge of liking, of who is found, of shares and quarrels. */
public final class FindingsSentencesTest extends Sentences {
    private static final long LONG_BAD = -9223372036854775806L, LONG_NOT = -9223372036854775805L;

    public static void main(String[] args) {
        whoseLiking();
        whatCounts();
        growth();
        hunger();
        habit();
        fades();
        found();
        share();
        alikeDays();
        quarrel();
        dissent();
        changes();
        end();
    }

    private static void whoseLiking() {
        sentence(12, "DOGS are 0, the judge, and 1, the one next door.", () -> {
            DogJudge x = come(heirs("010"), 0, 0, COAT);
            x.taste(1, COAT, 7);
            due(1, x.liking(0, 0, 0));
            due(7, x.liking(1, 0, 0));
            due(BAD, x.liking(-1, 0, 0));
            due(BAD, x.liking(2, 0, 0));
            due(BAD, x.liking(LEAST, 0, 0));
            due(BAD, x.liking(MOST, 0, 0));
        });
        sentence(12, "DAYS are 0 to 29.", () -> {
            DogJudge x = come(heirs("111"), 0, 0, COAT, 29, 0, STICK);
            due(1, x.liking(0, 0, 0));
            due(1, x.liking(0, 28, 0));
            due(2, x.liking(0, 29, 0));
            due(BAD, x.liking(0, -1, 0));
            due(BAD, x.liking(0, 30, 0));
            due(BAD, x.liking(0, LEAST, 0));
            due(BAD, x.liking(0, MOST, 0));
        });
        sentence(12, "LIKING. BAD.", () -> {
            DogJudge x = come(heirs("010"), 0, 0, COAT);
            due(1, x.liking(0, 0, 0));
            due(1, x.liking(1, 29, 0));
            due(BAD, x.liking(2, 30, 1));
            due(BAD, x.liking(-1, -1, -1));
            due(BAD, x.liking(0, 0, 1));
        });
        sentence(12, "BAD -2 (a number not as told, no such thing)", () -> {
            DogJudge x = come(heirs("111;222"), 0, 1, COAT);
            due(2, x.liking(0, 0, 1));
            due(BAD, x.liking(0, 0, 2));
            due(BAD, x.liking(0, 0, 5));
            due(BAD, x.liking(0, 0, -1));
            due(BAD, x.liking(0, 0, LEAST));
            due(BAD, x.liking(0, 0, MOST));
            due(0, heirs(SIX_HEIRS).liking(0, 0, 5));
            due(BAD, heirs(SIX_HEIRS).liking(0, 0, 6));
            due(BAD, new DogJudge().liking(0, 0, 0));
        });
        sentence(12, "With a FAULT there are none.", () -> {
            DogJudge x = come(heirs("111;"), 0, 0, COAT);
            due(BAD, x.liking(0, 0, 0));
            x.undo();
            due(1, x.liking(0, 0, 0));
        });
        sentence(12, "LIKING of each HEIR is 0 ahead of DAY 0.", () -> {
            DogJudge x = heirs(SIX_HEIRS);
            for (int heir = 0; heir < 6; heir++) due(0, x.liking(0, 0, heir));
            x.set(FADES, 9);
            for (int heir = 0; heir < 6; heir++) due(0, x.liking(1, 29, heir));
            // Asked again, it begins anew.
            come(x, 0, 0, COAT);
            due(1, x.liking(0, 0, 0));
            due(1, x.liking(0, 0, 0));
        });
    }

    private static void whatCounts() {
        sentence(12, "What is brought by who is not there", () -> {
            // The sausage of an heir who is not there leaves the dog hungry.
            DogJudge x = come(heirs("300"), 0, 1, SAUSAGE, 0, 0, SAUSAGE);
            due(6, x.liking(0, 0, 0));
            for (char c : ";400".toCharArray()) x.type(c);
            due(3, x.liking(0, 0, 0));
            due(8, x.liking(0, 0, 1));
            x.undo();
            due(BAD, x.liking(0, 0, 0));
            for (int i = 0; i < 3; i++) x.undo();
            due(6, x.liking(0, 0, 0));
        });
        sentence(12, "or on a DAY that it SLEEPS, does not count", () -> {
            DogJudge x = set(come(heirs("030"), 0, 0, COAT, 29, 0, COAT), SLEEPS, 1);
            due(0, x.liking(0, 28, 0));
            due(3, x.liking(0, 29, 0));
            x.set(SLEEPS, 1 << 29);
            due(3, x.liking(0, 28, 0));
            due(3, x.liking(0, 29, 0));
            x.set(SLEEPS, 0);
            due(5, x.liking(0, 29, 0));
        });
        sentence(12, "DAY by DAY, by VISITS of that DAY as told", () -> {
            DogJudge x = come(heirs("550;300"), 5, 0, COAT, 0, 0, COAT);
            due(5, x.liking(0, 0, 0));
            due(9, x.liking(0, 5, 0));
            come(x, 7, 1, SAUSAGE, 7, 0, SAUSAGE);
            due(6, x.liking(0, 7, 1));
            due(14, x.liking(0, 7, 0));
        });
    }

    private static void growth() {
        sentence(12, "it grows by TASTE times how GOOD", () -> {
            DogJudge x = come(heirs("999;000"), 0, 0, COAT, 1, 0, SAUSAGE, 2, 1, COAT, 2, 0, STICK);
            x.taste(0, COAT, 9);
            x.taste(0, SAUSAGE, 9);
            x.taste(0, STICK, 0);
            due(81, x.liking(0, 0, 0));
            due(243, x.liking(0, 1, 0));
            due(243, x.liking(0, 2, 0));
            due(0, x.liking(0, 2, 1));
        });
        sentence(12, "VISITS, 24 at most (0 on)", () -> {
            DogJudge x = set(heirs("090"), HABIT, 0);
            x.taste(0, COAT, 9);
            due(1944, fullOfVisits(x).liking(0, 29, 0));
        });
        sentence(12, "a sausage by twice that, if ahead of it nobody brought one (that counted) on that DAY", () -> {
            DogJudge x = come(heirs("300;400;000"), 0, 0, SAUSAGE, 0, 1, SAUSAGE);
            due(6, x.liking(0, 0, 0));
            due(4, x.liking(0, 0, 1));
            // It may be its own, and one that is no good.
            due(6 + 2, come(heirs("300"), 0, 0, SAUSAGE, 0, 0, SAUSAGE).liking(0, 0, 0));
            due(3, come(heirs("300;000"), 0, 1, SAUSAGE, 0, 0, SAUSAGE).liking(0, 0, 0));
            // A coat or a stick is none; only a sausage is liked twice.
            due(6, come(heirs("300;099"), 0, 1, COAT, 0, 1, STICK, 0, 0, SAUSAGE).liking(0, 0, 0));
            due(18, come(heirs("300;099"), 0, 1, COAT, 0, 1, STICK, 0, 0, SAUSAGE).liking(0, 0, 1));
        });
    }

    private static void hunger() {
        sentence(12, "or on as many DAYS ahead of that as HUNGER is", () -> {
            for (int hunger = 0; hunger <= 9; hunger++) {
                DogJudge last = set(come(heirs("300;100"), 10, 1, SAUSAGE, 10 + hunger, 0, SAUSAGE), HUNGER, hunger);
                due(3, last.liking(0, 29, 0));
                DogJudge behind = set(come(heirs("300;100"), 10, 1, SAUSAGE, 11 + hunger, 0, SAUSAGE), HUNGER, hunger);
                due(6, behind.liking(0, 29, 0));
                // Ahead of day 0 nobody brought one.
                due(6, set(come(heirs("300"), 0, 0, SAUSAGE), HUNGER, hunger).liking(0, 0, 0));
            }
            due(3, set(come(heirs("300;100"), 0, 1, SAUSAGE, 9, 0, SAUSAGE), HUNGER, 9).liking(0, 29, 0));
            due(3, set(come(heirs("300;100"), 20, 1, SAUSAGE, 29, 0, SAUSAGE), HUNGER, 9).liking(0, 29, 0));
            due(6, set(come(heirs("300;100"), 19, 1, SAUSAGE, 29, 0, SAUSAGE), HUNGER, 9).liking(0, 29, 0));
        });
        sentence(12, "if ahead of it nobody brought one (that counted)", () -> {
            DogJudge x = set(come(heirs("300;100"), 1, 1, SAUSAGE, 2, 5, SAUSAGE, 2, 0, SAUSAGE), SLEEPS, 2);
            due(6, x.liking(0, 2, 0));
            x.set(SLEEPS, 0);
            due(3, x.liking(0, 2, 0));
            // One that is brought on a day behind does not tell, though it was told ahead.
            due(6, come(heirs("300;100"), 3, 1, SAUSAGE, 2, 0, SAUSAGE).liking(0, 2, 0));
        });
    }

    private static void habit() {
        sentence(12, "then by HABIT less, if what this HEIR brought last ahead of that (and that counted) was the same", () -> {
            // 2 times 4, then 1 less: not 2 times 3.
            DogJudge x = set(come(heirs("400"), 0, 0, SAUSAGE, 1, 0, SAUSAGE), HUNGER, 0);
            due(8, x.liking(0, 0, 0));
            due(15, x.liking(0, 1, 0));
            due(9, come(heirs("050"), 0, 0, COAT, 29, 0, COAT).liking(0, 29, 0));
            due(9, come(heirs("050"), 0, 0, COAT, 0, 0, COAT).liking(0, 0, 0));
            due(12, come(heirs("052"), 0, 0, COAT, 1, 0, STICK, 2, 0, COAT).liking(0, 2, 0));
            due(10, come(heirs("050"), 0, 0, COAT, 1, 0, STICK, 2, 0, COAT).liking(0, 2, 0));
            due(5, come(heirs("050;050"), 0, 0, COAT, 1, 1, COAT).liking(0, 1, 1));
            due(14, come(heirs("050"), 0, 0, COAT, 0, 0, STICK, 1, 0, COAT, 2, 0, COAT).liking(0, 2, 0));
            // The stick of a day that it sleeps through breaks no habit, a coat then makes none.
            due(9, set(come(heirs("052"), 0, 0, COAT, 1, 0, STICK, 2, 0, COAT), SLEEPS, 2).liking(0, 2, 0));
            due(5, set(come(heirs("050"), 0, 0, COAT, 1, 0, COAT), SLEEPS, 1).liking(0, 1, 0));
        });
        sentence(12, "HABIT (0 to 9; 1 at first)", () -> {
            due(18, set(come(heirs("090"), 0, 0, COAT, 1, 0, COAT), HABIT, 0).liking(0, 1, 0));
            due(9, set(come(heirs("090"), 0, 0, COAT, 1, 0, COAT), HABIT, 9).liking(0, 1, 0));
            due(10, set(come(heirs("090"), 0, 0, COAT, 1, 0, COAT), HABIT, 8).liking(0, 1, 0));
        });
        sentence(12, "(in all it never falls by this)", () -> {
            DogJudge x = set(come(heirs("410;800"), 0, 0, COAT, 1, 0, COAT, 2, 0, COAT), HABIT, 9);
            due(1, x.liking(0, 0, 0));
            due(1, x.liking(0, 1, 0));
            due(1, x.liking(0, 2, 0));
            // 2 times 4 less 9 is nothing, too.
            set(come(x, 4, 0, SAUSAGE, 8, 0, SAUSAGE), HUNGER, 3);
            due(9, x.liking(0, 4, 0));
            due(9, x.liking(0, 8, 0));
        });
    }

    private static void fades() {
        sentence(12, "the LIKING of all HEIRS who brought nothing (that counted) on it falls by FADES", () -> {
            DogJudge x = set(come(heirs("090;000"), 0, 0, COAT, 2, 0, STICK, 4, 1, COAT), FADES, 2);
            int[] liking = {9, 7, 7, 5, 3, 1};
            for (int day = 0; day < 6; day++) due(liking[day], x.liking(0, day, 0));
            // On a day that it sleeps what is brought does not count, and it fades.
            x.set(SLEEPS, 4);
            due(5, x.liking(0, 2, 0));
            x.set(FADES, 9);
            due(0, x.liking(0, 1, 0));
            x.set(FADES, 0);
            due(9, x.liking(0, 29, 0));
            // Who is found on day 0, and not only who came first.
            due(3, set(come(heirs("050;050"), 0, 1, COAT), FADES, 1).liking(0, 2, 1));
        });
        sentence(12, "(to 0 at least)", () -> {
            DogJudge x = set(come(heirs("041;000"), 0, 0, COAT, 2, 0, STICK), FADES, 3);
            int[] liking = {4, 1, 2, 0, 0};
            for (int day = 0; day < 5; day++) due(liking[day], x.liking(0, day, 0));
            x.set(FADES, 9);
            int[] more = {4, 0, 1, 0};
            for (int day = 0; day < 4; day++) due(more[day], x.liking(0, day, 0));
            due(0, x.liking(0, 29, 1));
        });
    }

    private static void found() {
        sentence(13, "FOUND; NONE. BAD.", () -> {
            DogJudge x = come(heirs("010"), 0, 0, COAT);
            due(0, x.found(0, 0));
            due(0, x.found(1, 29));
            due(BAD, x.found(-1, 0));
            due(BAD, x.found(2, 0));
            due(BAD, x.found(LEAST, 0));
            due(BAD, x.found(MOST, 0));
            due(BAD, x.found(0, -1));
            due(BAD, x.found(0, 30));
            due(BAD, x.found(1, LEAST));
            due(BAD, x.found(1, MOST));
            due(NONE, new DogJudge().found(0, 0));
            due(NONE, new DogJudge().found(1, 29));
        });
        sentence(13, "of like ones who was FOUND behind the DAY ahead", () -> {
            DogJudge x = come(heirs("010;010;010"), 0, 1, COAT, 1, 0, COAT, 2, 2, COAT);
            due(1, x.found(0, 0));
            due(1, x.found(0, 1));
            due(1, x.found(0, 29));
            // By one more it is the other one, and stays so when it is like again.
            come(x, 3, 2, STICK, 3, 0, STICK, 4, 2, COAT, 5, 1, STICK, 5, 1, COAT);
            due(2, x.found(0, 4));
            due(2, x.found(0, 5));
        });
        sentence(13, "else the least", () -> {
            due(1, come(heirs("010;010;010"), 0, 2, COAT, 0, 1, COAT).found(0, 0));
            due(0, come(heirs("010;010;010"), 0, 2, COAT, 0, 1, COAT, 0, 0, COAT).found(0, 0));
            // Heir 2 was found, but is not among those who are liked most now.
            DogJudge x = come(heirs("010;020;010;020"), 0, 2, COAT, 1, 3, COAT, 1, 1, COAT);
            due(2, x.found(0, 0));
            due(1, x.found(0, 1));
        });
        sentence(13, "NONE: all are 0.", () -> {
            due(NONE, come(heirs("000;101"), 0, 0, COAT, 0, 1, COAT).found(0, 29));
            // Behind a day of nobody, nobody was found: the least, not who was found ahead of that.
            DogJudge x = set(come(heirs("010;010"), 0, 1, COAT, 2, 1, STICK, 3, 1, COAT, 3, 0, COAT), FADES, 1);
            due(1, x.found(0, 0));
            due(NONE, x.found(0, 1));
            due(NONE, x.found(0, 2));
            due(0, x.found(0, 3));
            due(NONE, x.found(0, 4));
        });
        sentence(13, "With a FAULT there are none.", () -> {
            DogJudge x = come(heirs("010;"), 0, 0, COAT);
            due(NONE, x.found(0, 0));
            due(NONE, x.found(1, 29));
            x.undo();
            due(0, x.found(0, 0));
        });
    }

    private static void share() {
        sentence(14, "SHARE: above, below. BAD; NOT.", () -> {
            DogJudge x = come(heirs("010;010"), 0, 0, COAT);
            due(LONG_BAD, x.share(-1, 0, 0));
            due(LONG_BAD, x.share(30, 0, 0));
            due(LONG_BAD, x.share(LEAST, 0, 0));
            due(LONG_BAD, x.share(MOST, 0, 0));
            due(LONG_BAD, x.share(0, -1, 0));
            due(LONG_BAD, x.share(0, 2, 0));
            due(LONG_BAD, x.share(0, MOST, 0));
            due(LONG_BAD, x.share(0, 0, -1));
            due(LONG_BAD, x.share(0, 0, 2));
            due(LONG_BAD, x.share(0, 0, LEAST));
            due(1, x.share(29, 0, 1));
            due(LONG_BAD, heirs("010;").share(0, 0, 0));
            due(LONG_BAD, new DogJudge().share(0, 0, 0));
        });
        sentence(14, "NOT: all are 0.", () -> {
            DogJudge x = come(heirs("010;010"), 1, 0, COAT);
            for (int i = 0; i < 4; i++) due(LONG_NOT, x.share(0, i / 2, i % 2));
            due(1, x.share(1, 0, 0));
            x.set(FADES, 1);
            due(LONG_NOT, x.share(2, 0, 0));
            x.taste(0, COAT, 0);
            due(LONG_NOT, x.share(1, 0, 0));
        });
        sentence(14, "FRACTIONS are told in lowest terms, above and below (0 by 1).", () -> {
            DogJudge x = come(heirs("060;030;000"), 0, 0, COAT, 0, 1, COAT);
            long[] due = {2, 3, 1, 3, 0, 1};
            for (int i = 0; i < 6; i++) due(due[i], x.share(0, i / 2, i % 2));
            DogJudge alone = come(heirs("090"), 0, 0, COAT);
            due(1, alone.share(0, 0, 0));
            due(1, alone.share(0, 0, 1));
            DogJudge odd = come(heirs("090;080"), 0, 0, COAT, 0, 1, COAT);
            due(9, odd.share(29, 0, 0));
            due(17, odd.share(29, 0, 1));
        });
        sentence(14, "(A refusal -x is the least long and x more.)", () -> {
            due(LONG_BAD, heirs("010").share(0, 1, 0));
            due(LONG_NOT, heirs("010").share(0, 0, 1));
        });
        sentence(14, "Where the answer is a long, a refusal -x is the least long and x more.", () -> {
            DogJudge x = heirs("010");
            due(Long.MIN_VALUE + 2, x.share(30, 0, 0));
            due(Long.MIN_VALUE + 3, x.share(29, 0, 0));
        });
        sentence(14, "Refusals, the first that fits, in the order told at each act", () -> {
            DogJudge x = heirs("010");
            due(LONG_NOT, x.share(0, 0, 0));
            due(LONG_BAD, x.share(0, 0, 2));
            due(LONG_BAD, x.share(0, 1, 0));
            due(LONG_BAD, x.share(30, 0, 0));
        });
    }

    private static void alikeDays() {
        sentence(15, "alike are DAYS on which the same HEIRS brought the same THINGS, as often", () -> {
            // Found are 0, 1, 1: the last day is like the first only if what is brought is the same, as often.
            String text = "023;090;000";
            due(2, come(heirs(text), 0, 0, COAT, 1, 1, COAT, 2, 0, COAT).quarrel(0));
            due(NONE, come(heirs(text), 0, 0, COAT, 1, 1, COAT, 2, 0, COAT, 2, 0, COAT).quarrel(0));
            due(NONE, come(heirs(text), 0, 0, COAT, 0, 0, COAT, 1, 1, COAT, 2, 0, COAT).quarrel(0));
            due(NONE, come(heirs(text), 0, 0, COAT, 1, 1, COAT, 2, 0, STICK).quarrel(0));
            due(NONE, come(heirs(text), 0, 0, COAT, 1, 1, COAT, 2, 2, COAT).quarrel(0));
            due(NONE, come(heirs(text), 0, 0, COAT, 1, 1, COAT, 2, 0, COAT, 2, 0, STICK).quarrel(0));
            // A stick of heir 0 is no sausage of heir 1; sausages are looked at, too.
            due(NONE, come(heirs("001;209"), 0, 0, STICK, 1, 1, STICK, 2, 1, SAUSAGE).quarrel(0));
            due(3, come(heirs("100;090"), 0, 0, SAUSAGE, 1, 1, COAT, 2, 1, STICK, 3, 0, SAUSAGE).quarrel(0));
            DogJudge x = come(heirs(text), 0, 0, COAT, 0, 0, STICK, 1, 1, COAT, 2, 0, STICK, 2, 0, COAT);
            due(2, x.quarrel(0));
            come(x, 2, 2, COAT);
            due(NONE, x.quarrel(0));
            come(x, 0, 2, STICK);
            due(NONE, x.quarrel(0));
            x.back();
            come(x, 0, 2, COAT);
            due(2, x.quarrel(0));
            come(x, 0, 2, COAT);
            due(NONE, x.quarrel(0));
        });
        sentence(15, "(of VISITS that count; one at least)", () -> {
            // Days on which nothing counts are not alike, though found differs: 0, then 1.
            due(NONE, come(heirs("010;030"), 0, 0, COAT, 5, 1, COAT).quarrel(0));
            due(NONE, come(heirs("010;030"), 0, 0, COAT, 2, 5, COAT, 4, 1, COAT, 6, 5, COAT).quarrel(0));
            DogJudge x = come(heirs("010;030"), 0, 0, COAT, 1, 1, COAT, 2, 0, COAT, 2, 5, COAT, 3, 0, COAT);
            due(2, x.quarrel(0));
            x.set(SLEEPS, 4);
            due(3, x.quarrel(0));
            x.set(SLEEPS, 1);
            due(NONE, x.quarrel(0));
            x.set(SLEEPS, 12);
            due(NONE, x.quarrel(0));
        });
    }

    private static void quarrel() {
        sentence(15, "QUARREL: the DAY (what = 0), the like one (1); NONE. BAD.", () -> {
            DogJudge x = come(heirs("010;030"), 0, 0, COAT, 28, 1, COAT, 29, 0, COAT);
            due(29, x.quarrel(0));
            due(0, x.quarrel(1));
            due(BAD, x.quarrel(-1));
            due(BAD, x.quarrel(2));
            due(BAD, x.quarrel(LEAST));
            due(BAD, x.quarrel(MOST));
            due(NONE, new DogJudge().quarrel(0));
            due(NONE, new DogJudge().quarrel(1));
            due(BAD, new DogJudge().quarrel(2));
            due(NONE, come(heirs("010;"), 0, 0, COAT, 28, 1, COAT, 29, 0, COAT).quarrel(0));
        });
        sentence(15, "the first DAY that has a like one ahead of it behind which the judge FOUND otherwise", () -> {
            DogJudge x = set(come(heirs("010;020;001"), 0, 0, COAT, 1, 1, COAT, 3, 0, COAT, 4, 1, COAT), HABIT, 0);
            // 1 is found from day 1 on; a second coat of 0 makes it 2 to 2 alone.
            due(3, x.quarrel(0));
            due(0, x.quarrel(1));
            // Nobody is found behind the first, 1 behind the second.
            DogJudge y = come(heirs("000;010"), 0, 0, COAT, 1, 1, COAT, 2, 0, COAT);
            due(2, y.quarrel(0));
            due(0, y.quarrel(1));
            // It is the judge's finding, not that of the dog next door.
            DogJudge z = come(heirs("011;030"), 0, 0, COAT, 1, 1, COAT, 2, 0, COAT);
            z.taste(1, COAT, 0);
            due(2, z.quarrel(0));
            z.taste(0, COAT, 0);
            z.taste(1, COAT, 1);
            due(NONE, z.quarrel(0));
        });
        sentence(15, "that DAY; the first of those like ones; NONE.", () -> {
            DogJudge x = come(heirs("010;030"), 2, 0, COAT, 3, 0, COAT, 4, 0, STICK, 5, 0, COAT, 6, 1, COAT, 7, 0, COAT);
            due(7, x.quarrel(0));
            due(2, x.quarrel(1));
            x.set(SLEEPS, 4);
            due(3, x.quarrel(1));
        });
    }

    private static void dissent() {
        sentence(16, "DISSENT, as bits.", () -> {
            DogJudge last = come(heirs("010"), 29, 0, COAT);
            last.taste(1, COAT, 0);
            due(1 << 29, last.dissent());
            DogJudge first = set(come(heirs("010"), 0, 0, COAT), FADES, 1);
            first.taste(0, COAT, 0);
            due(1, first.dissent());
            first.set(FADES, 0);
            due(ALL_DAYS, first.dissent());
            first.taste(1, COAT, 0);
            due(0, first.dissent());
            due(0, new DogJudge().dissent());
        });
        sentence(16, "DISSENT: DAYS behind which both DOGS FIND unlike, as bits.", () -> {
            // 0 and 1 are found from day 0 on; on days 2 to 4 both find 1.
            DogJudge x = set(come(heirs("040;003"), 0, 0, COAT, 0, 1, STICK, 2, 1, STICK, 5, 0, COAT), HABIT, 0);
            x.taste(1, STICK, 2);
            due(0b11, x.dissent() & 0b11);
            due(0b00, x.dissent() & 0b11100);
            due(ALL_DAYS ^ 0b11100, x.dissent());
        });
        sentence(16, "With a FAULT there are none.", () -> {
            DogJudge x = come(heirs("010;"), 0, 0, COAT);
            x.taste(1, COAT, 0);
            due(0, x.dissent());
            x.undo();
            due(ALL_DAYS, x.dissent());
        });
    }

    private static void changes() {
        sentence(17, "(behind DAY 0: NONE ahead)", () -> {
            due(0, new DogJudge().changes());
            due(0, come(heirs("010"), 0, 0, STICK).changes());
            due(1, come(heirs("010"), 0, 0, COAT).changes());
            due(1, come(heirs("010;010"), 0, 1, COAT).changes());
        });
        sentence(17, "behind how many DAYS the judge FINDS another one than behind the DAY ahead", () -> {
            due(1, come(heirs("010"), 29, 0, COAT).changes());
            due(2, come(heirs("010;020"), 0, 0, COAT, 29, 1, COAT).changes());
            due(1, come(heirs("010;010"), 0, 0, COAT, 29, 1, COAT).changes());
            // By turns an heir and nobody: behind every one of the 30 days.
            DogJudge x = set(heirs("010"), FADES, 1, HABIT, 0);
            for (int day = 0; day < 30; day += 2) come(x, day, 0, COAT);
            due(30, x.changes());
            x.back();
            due(28, x.changes());
            due(0, come(heirs("010;"), 0, 0, COAT).changes());
        });
    }
}
