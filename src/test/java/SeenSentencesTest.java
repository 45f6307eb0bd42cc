/** Promises 20 to 24: each sentence that names an edge of what was seen, of tastes and of the trainer. */
public final class SeenSentencesTest extends Sentences {
    public static void main(String[] args) {
        seen();
        forget();
        tastes();
        rowsOfTaste();
        seenInSleep();
        tells();
        bestThing();
        dayOfTheThing();
        trainer();
        night();
        end();
    }

    private static void seen() {
        sentence(20, "SEEN, 8 at most", () -> {
            DogJudge x = new DogJudge();
            for (int i = 1; i <= 8; i++) due(i, x.seen(7, NONE));
            due(FULL, x.seen(7, NONE));
            due(FULL, x.seen(0, 0));
            due(8, x.count(4));
            x.forget();
            due(1, x.seen(7, NONE));
        });
        sentence(20, "behind a DAY an HEIR (0 to 5) was FOUND, or none (NONE)", () -> {
            DogJudge x = new DogJudge();
            due(1, x.seen(0, NONE));
            due(2, x.seen(0, 0));
            due(3, x.seen(0, 5));
            due(BAD, x.seen(0, -2));
            due(BAD, x.seen(0, 6));
            due(BAD, x.seen(0, LEAST));
            due(BAD, x.seen(0, MOST));
            due(3, x.count(4));
        });
        sentence(20, "DAYS are 0 to 29.", () -> {
            DogJudge x = new DogJudge();
            due(1, x.seen(0, 0));
            due(2, x.seen(29, 0));
            due(BAD, x.seen(-1, 0));
            due(BAD, x.seen(30, 0));
            due(BAD, x.seen(LEAST, 0));
            due(BAD, x.seen(MOST, 0));
        });
        sentence(20, "SEEN more: how many. BAD; FULL.", () -> {
            DogJudge x = new DogJudge();
            due(BAD, x.seen(-1, -2));
            due(BAD, x.seen(30, 6));
            for (int i = 1; i <= 8; i++) due(i, x.seen(29, 5));
            due(FULL, x.seen(29, 5));
            due(BAD, x.seen(30, 6));
        });
        sentence(20, "Refusals, the first that fits, in the order told at each act", () -> {
            DogJudge x = new DogJudge();
            for (int i = 1; i <= 8; i++) x.seen(i, NONE);
            due(BAD, x.seen(30, 0));
            due(BAD, x.seen(0, 6));
            due(FULL, x.seen(0, 0));
        });
    }

    private static void forget() {
        sentence(21, "All SEEN are forgotten: how many.", () -> {
            DogJudge x = new DogJudge();
            due(0, x.forget());
            for (int i = 1; i <= 8; i++) x.seen(i, i % 2);
            due(0, x.tastes(0));
            due(8, x.forget());
            due(0, x.count(4));
            due(1000, x.tastes(0));
            due(64, x.trainer());
            due(0, x.forget());
            for (int i = 1; i <= 8; i++) due(i, x.seen(29, NONE));
            due(FULL, x.seen(29, NONE));
            due(1000, x.tastes(0));
            due(8, x.forget());
        });
    }

    private static void tastes() {
        sentence(22, "TASTES: how many (what = 0), the least (1; NONE). BAD.", () -> {
            DogJudge x = new DogJudge();
            due(1000, x.tastes(0));
            due(0, x.tastes(1));
            due(BAD, x.tastes(-1));
            due(BAD, x.tastes(2));
            due(BAD, x.tastes(LEAST));
            due(BAD, x.tastes(MOST));
        });
        sentence(22, "how many; the least, as three figures; NONE.", () -> {
            DogJudge x = come(heirs("111"), 0, 0, STICK);
            x.seen(0, 0);
            due(900, x.tastes(0));
            due(1, x.tastes(1));
            x.seen(0, NONE);
            due(0, x.tastes(0));
            due(NONE, x.tastes(1));
            x.forget();
            x.seen(0, NONE);
            due(100, x.tastes(0));
            due(0, x.tastes(1));
        });
        sentence(22, "by which all that was SEEN comes out so", () -> {
            // More for the stick than for the coat behind day 1, and the coat not 0 behind day 0.
            DogJudge x = come(heirs("010;001"), 0, 0, COAT, 1, 1, STICK);
            x.seen(1, 1);
            x.seen(0, 0);
            due(360, x.tastes(0));
            due(12, x.tastes(1));
            for (int i = 0; i < 5; i++) x.seen(0, 0);
            due(360, x.tastes(0));
            // The eighth and last tells, too.
            due(8, x.seen(29, 0));
            due(0, x.tastes(0));
        });
        sentence(22, "HEIR (0 to 5) was FOUND, or none (NONE), by the judge", () -> {
            DogJudge x = new DogJudge();
            x.seen(0, NONE);
            due(1000, x.tastes(0));
            x.forget();
            x.seen(0, 0);
            due(0, x.tastes(0));
            DogJudge y = come(heirs(SIX_HEIRS), 29, 5, COAT);
            y.seen(29, 5);
            due(900, y.tastes(0));
            y.undo();
            due(0, y.tastes(0));
        });
        sentence(22, "An object is used for at most 512 calls after it has been made", () -> {
            // Tastes that are tried are not kept: the dog's own are as they were.
            DogJudge x = come(heirs("111"), 0, 0, STICK);
            for (int i = 0; i < 200; i++) due(i % 2 == 0 ? 1000 : 0, x.tastes(i % 2));
            due(1, x.liking(0, 0, 0));
            due(1, x.taste(0, STICK, 2));
        });
    }

    private static void rowsOfTaste() {
        sentence(22, "rows of TASTE (0 to 9 for each THING) of the judge", () -> {
            // By fading 8 only what is liked by 9 is found a day later.
            for (int thing = 0; thing < 3; thing++) {
                DogJudge x = set(come(heirs("111;000"), 0, 1, SAUSAGE, 0, 0, thing), FADES, 8);
                x.seen(1, 0);
                due(100, x.tastes(0));
                due(new int[] {900, 90, 9}[thing], x.tastes(1));
                x.set(FADES, 9);
                due(0, x.tastes(0));
                due(NONE, x.tastes(1));
                x.forget();
                x.seen(0, NONE);
                due(100, x.tastes(0));
                due(0, x.tastes(1));
            }
            // All three by 9 at once.
            DogJudge x = set(come(heirs("100;010;001"), 0, 1, SAUSAGE, 0, 0, SAUSAGE, 2, 1, COAT, 4, 2, STICK), FADES, 8);
            x.seen(1, 0);
            x.seen(3, 1);
            x.seen(5, 2);
            due(1, x.tastes(0));
            due(999, x.tastes(1));
        });
    }

    private static void seenInSleep() {
        sentence(22, "What is brought by who is not there, or on a DAY that it SLEEPS, does not count.", () -> {
            DogJudge x = come(heirs("010"), 0, 0, COAT, 29, 0, COAT, 1, 1, COAT);
            x.seen(0, NONE);
            x.seen(29, 0);
            due(0, x.tastes(0));
            x.set(SLEEPS, 1);
            due(900, x.tastes(0));
            due(10, x.tastes(1));
            x.set(SLEEPS, 1 | 1 << 29);
            due(0, x.tastes(0));
            x.forget();
            x.seen(29, NONE);
            due(1000, x.tastes(0));
        });
        sentence(24, "What is brought by who is not there, or on a DAY that it SLEEPS, does not count.", () -> {
            DogJudge x = come(heirs("090;000"), 0, 0, COAT, 0, 2, COAT);
            x.seen(0, 1);
            due(0, x.trainer());
            x.set(SLEEPS, 1);
            due(2, x.trainer());
            x.set(SLEEPS, 2);
            due(0, x.trainer());
        });
    }

    private static void tells() {
        sentence(23, "TELLS. BAD.", () -> {
            DogJudge x = heirs("111");
            due(BAD, x.tells(-1, 0));
            due(BAD, x.tells(30, 0));
            due(BAD, x.tells(LEAST, 0));
            due(BAD, x.tells(MOST, 0));
            due(BAD, x.tells(0, -1));
            due(BAD, x.tells(0, 1));
            due(BAD, x.tells(0, LEAST));
            due(BAD, x.tells(0, MOST));
            due(BAD, new DogJudge().tells(0, 0));
            due(2, heirs("111;222;333;444;555;001").tells(0, 5));
            due(BAD, heirs(SIX_HEIRS).tells(0, 6));
        });
        sentence(23, "DAYS are 0 to 29.", () -> {
            due(2, heirs("001").tells(0, 0));
            due(2, heirs("001").tells(29, 0));
            due(0, set(heirs("001"), SLEEPS, 1 << 29).tells(29, 0));
            due(0, set(heirs("001"), SLEEPS, 1).tells(0, 0));
        });
        sentence(23, "With a FAULT there are none.", () -> due(BAD, heirs("001;").tells(0, 0)));
    }

    private static void bestThing() {
        sentence(23, "of like ones the least", () -> {
            due(0, heirs("000").tells(0, 0));
            due(0, heirs("111").tells(0, 0));
            due(0, heirs("110").tells(0, 0));
            due(0, heirs("101").tells(0, 0));
            due(1, heirs("011").tells(0, 0));
            // Nothing explains what was seen: all are like ones.
            DogJudge x = heirs("001");
            x.seen(0, 5);
            due(0, x.tells(0, 0));
        });
        sentence(23, "that by which the greatest number of TASTES that FIND alike behind that DAY is least", () -> {
            // By a thing that is no good all 1000 find nobody; that is alike, too.
            due(1, heirs("010").tells(0, 0));
            due(2, heirs("001").tells(0, 0));
            // It is known that sausages are not liked, so only the coat is yet to tell.
            DogJudge x = come(heirs("111"), 0, 0, SAUSAGE);
            x.seen(0, NONE);
            due(1, x.tells(1, 0));
            x.back();
            come(x, 0, 0, SAUSAGE, 0, 0, COAT);
            // Of ten rows that are left 000 is one.
            due(2, x.tells(1, 0));
            // Asked anew, it counts anew.
            DogJudge y = heirs("010");
            due(1, y.tells(0, 0));
            y.wipe();
            for (char c : "001".toCharArray()) y.type(c);
            due(2, y.tells(0, 0));
            // By heir 5's sausage it is found by 900, by its stick by 450 and heir 4 by 540.
            due(2, come(heirs("000;000;000;000;010;901"), 0, 4, COAT).tells(0, 5));
            // Against a coat of 5 a coat of 5 is never found, a stick of 5 by nearly half.
            due(2, come(heirs("050;055"), 0, 0, COAT).tells(0, 1));
        });
    }

    private static void dayOfTheThing() {
        sentence(23, "one of which an HEIR brings on a DAY more (told behind all others of it)", () -> {
            // Against a coat a sausage, twice liked, leaves 700 alike, a stick 540; a sausage once liked 540.
            due(2, set(come(heirs("010;101"), 0, 0, COAT), HABIT, 0).tells(0, 1));
            due(2, set(come(heirs("010;101"), 3, 0, COAT), HABIT, 0).tells(3, 1));
            due(0, set(come(heirs("010;101"), 3, 0, COAT, 3, 0, SAUSAGE), HABIT, 0).tells(3, 1));
            DogJudge x = set(come(heirs("010;101"), 0, 0, COAT, 0, 0, SAUSAGE), HABIT, 0);
            due(0, x.tells(3, 1));
            due(2, x.tells(4, 1));
            due(2, x.count(2));
        });
        sentence(23, "VISITS, 24 at most (0 on)", () -> {
            DogJudge x = fullOfVisits(heirs("001"));
            due(2, x.tells(0, 0));
            due(24, x.count(2));
        });
        sentence(23, "behind that DAY", () -> {
            // What was seen of day 0 and of later days is not lived twice; the coat of day 2 is not yet there.
            DogJudge x = set(come(heirs("010;101"), 0, 0, COAT, 2, 0, COAT), HABIT, 0);
            x.seen(0, 0);
            due(2, x.tells(0, 1));
            due(2, x.tells(1, 1));
            x.seen(29, 0);
            due(2, x.tells(1, 1));
            due(0, x.tells(2, 1));
        });
        sentence(23, "rows of TASTE (0 to 9 for each THING) of the judge", () -> {
            // Sausage and coat are 9 by fading 8; of the ten rows only 999 finds heir 0's stick like heir 1's coat.
            DogJudge x = set(come(heirs("001;010;100"), 0, 0, SAUSAGE, 0, 2, SAUSAGE, 2, 1, COAT, 5, 1, COAT), HABIT, 0, FADES, 8);
            x.seen(1, 2);
            x.seen(3, 1);
            due(10, x.tastes(0));
            due(990, x.tastes(1));
            due(2, x.tells(5, 0));
        });
    }

    private static void trainer() {
        sentence(24, "as bits (of HEIRS that there are; bit 6: nobody)", () -> {
            due(64, new DogJudge().trainer());
            due(65, heirs("000").trainer());
            due(127, heirs(SIX_HEIRS).trainer());
            for (int heir = 0; heir < 6; heir++) {
                DogJudge x = heirs("000;000;000;000;000;000");
                x.seen(0, heir);
                due(1 << heir, x.trainer());
            }
            DogJudge none = heirs("000;000;000;000;000;000");
            none.seen(29, NONE);
            due(64, none.trainer());
            // Who is not there can't be it, nor be found.
            DogJudge two = heirs("000;000");
            two.seen(0, 2);
            due(0, two.trainer());
        });
        sentence(24, "TRAINER, as bits.", () -> {
            // By two nights of 2 heir 0 or 1 comes up to a coat of 4 of heir 2; 0 and 1 are less than 2.
            DogJudge x = come(heirs("000;000;040"), 0, 2, COAT);
            x.seen(1, 2);
            due(0b1000111, x.trainer());
            x.seen(2, 2);
            due(0b1000100, x.trainer());
            x.seen(2, 1);
            due(0, x.trainer());
            x.forget();
            x.seen(2, 1);
            due(0b0000010, x.trainer());
        });
        sentence(24, "With a FAULT there are none.", () -> {
            DogJudge x = heirs("000;000;");
            due(64, x.trainer());
            x.seen(0, 0);
            due(0, x.trainer());
            x.undo();
            due(1, x.trainer());
        });
        sentence(24, "so that all that was SEEN comes out so", () -> {
            DogJudge x = heirs("000;000");
            due(1, x.seen(0, 0));
            due(1, x.trainer());
            due(2, x.seen(29, 0));
            due(1, x.trainer());
            for (int i = 3; i <= 7; i++) x.seen(29, 0);
            due(8, x.seen(29, 1));
            due(0, x.trainer());
        });
    }

    private static void night() {
        sentence(24, "by NIGHT (0 to 9; 2 at first) more LIKING behind each DAY", () -> {
            // Against a coat of 9, of like ones who was found: 9 by nine nights of 1, or by one of 9.
            DogJudge x = come(heirs("090;000"), 0, 0, COAT);
            x.seen(4, 1);
            due(2, x.trainer());
            x.seen(3, 0);
            due(2, x.trainer());
            x.set(NIGHT, 1);
            due(0, x.trainer());
            x.forget();
            x.seen(9, 1);
            x.seen(8, 0);
            due(2, x.trainer());
            x.set(NIGHT, 9);
            due(0, x.trainer());
            x.forget();
            x.seen(0, 0);
            x.seen(1, 1);
            due(2, x.trainer());
            // By nights of 0 all train alike.
            x.set(NIGHT, 0);
            due(0, x.trainer());
            x.forget();
            x.seen(29, 0);
            due(67, x.trainer());
            // It is the judge who is trained, whatever the dog next door likes.
            x.taste(1, COAT, 0);
            due(67, x.trainer());
        });
        sentence(24, "(also as it SLEEPS; ahead of what is FOUND, behind FADES)", () -> {
            DogJudge x = set(heirs("000;000"), SLEEPS, ALL_DAYS);
            x.seen(0, 1);
            x.seen(29, 1);
            due(2, x.trainer());
            // Fading takes nothing of what comes behind it.
            x.set(FADES, 9);
            due(2, x.trainer());
            // 2, then 1 less and 2 more: 3 behind day 1 (like 3, that was found), 4 behind day 2.
            DogJudge y = set(come(heirs("030;000"), 0, 0, COAT, 1, 0, STICK, 2, 0, SAUSAGE), FADES, 1);
            y.seen(1, 0);
            y.seen(2, 1);
            due(2, y.trainer());
        });
    }
}
