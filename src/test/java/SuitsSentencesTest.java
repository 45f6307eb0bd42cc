/** Promises 18 and 19: each sentence that names an edge of suits and of turns. */
public final class SuitsSentencesTest extends Sentences {
    public static void main(String[] args) {
        whoseSuit();
        fewestVisits();
        leastRow();
        suitsInSleep();
        whoseTurns();
        lengthOfTurns();
        bestTurns();
        turnsInSleep();
        end();
    }

    /** The number of visits of a suit, then its row; NONE where there is none. */
    private static void dueSuit(DogJudge x, int heir, int day, int many, int first, int second, int third) {
        due(many, x.suit(heir, day, NONE));
        due(first, x.suit(heir, day, 0));
        due(second, x.suit(heir, day, 1));
        due(third, x.suit(heir, day, 2));
    }

    private static void whoseSuit() {
        sentence(18, "SUIT of an HEIR to a DAY (0 to 9)", () -> {
            DogJudge x = set(heirs("010"), FADES, 1);
            dueSuit(x, 0, 0, 1, 1, NONE, NONE);
            dueSuit(x, 0, 9, 1, 28, NONE, NONE);
            due(BAD, x.suit(0, -1, NONE));
            due(BAD, x.suit(0, 10, NONE));
            due(BAD, x.suit(0, 29, 0));
            due(BAD, x.suit(0, LEAST, 0));
            due(BAD, x.suit(0, MOST, 0));
        });
        sentence(18, "BAD -2 (a number not as told, no such thing)", () -> {
            due(BAD, heirs("010").suit(1, 0, 0));
            due(BAD, heirs("010").suit(-1, 0, 0));
            due(BAD, heirs("010").suit(LEAST, 0, 0));
            due(BAD, heirs("010").suit(MOST, 0, 0));
            due(1, heirs(SIX_HEIRS).suit(5, 0, NONE));
            due(BAD, heirs(SIX_HEIRS).suit(6, 0, NONE));
            due(BAD, new DogJudge().suit(0, 0, NONE));
        });
        sentence(18, "With a FAULT there are none.", () -> due(BAD, heirs("010;").suit(0, 0, NONE)));
        sentence(18, "SUIT: how many (i = NONE), the i-th (0 to 2; NONE); NONE. BAD.", () -> {
            DogJudge x = set(come(heirs("010;030"), 0, 1, COAT), HABIT, 0);
            dueSuit(x, 0, 0, 3, 1, 1, 1);
            due(BAD, x.suit(0, 0, -2));
            due(BAD, x.suit(0, 0, 3));
            due(BAD, x.suit(0, 0, LEAST));
            due(BAD, x.suit(0, 0, MOST));
        });
    }

    private static void fewestVisits() {
        sentence(18, "the fewest VISITS more (0 to 3;", () -> {
            // Against 0 to 4 coats that are told: none, some, and one more than there may be.
            for (int coats = 0; coats <= 4; coats++) {
                DogJudge x = set(heirs("010;010"), HABIT, 0);
                for (int i = 0; i < coats; i++) come(x, 0, 1, COAT);
                if (coats == 0) come(x, 0, 0, COAT);
                int many = coats < 4 ? coats : NONE;
                dueSuit(x, 0, 0, many, coats > 0 ? many < 0 ? NONE : 1 : NONE, coats == 2 || coats == 3 ? 1 : NONE, coats == 3 ? 1 : NONE);
            }
            DogJudge far = set(come(heirs("010;040"), 0, 1, COAT), HABIT, 0);
            dueSuit(far, 0, 9, NONE, NONE, NONE, NONE);
        });
        sentence(18, "whatever room there is", () -> {
            for (int told = 21; told <= 24; told++) {
                DogJudge x = set(heirs("010;030"), HABIT, 0);
                come(x, 0, 1, COAT);
                for (int i = 1; i < told; i++) come(x, 29, 0, STICK);
                dueSuit(x, 0, 0, 3, 1, 1, 1);
                due(told, x.count(2));
                due(1, x.found(0, 0));
            }
        });
        sentence(18, "on DAYS up to that one", () -> {
            // What is brought ahead of a day has faded on it, and on day 4 the dog sleeps.
            DogJudge x = set(heirs("010"), FADES, 9, SLEEPS, 1 << 4);
            dueSuit(x, 0, 4, NONE, NONE, NONE, NONE);
            dueSuit(x, 0, 5, 1, 16, NONE, NONE);
            dueSuit(x, 0, 3, 1, 10, NONE, NONE);
            // What is told of a later day is no help.
            dueSuit(set(come(heirs("010"), 5, 0, COAT), SLEEPS, 31), 0, 4, NONE, NONE, NONE, NONE);
        });
        sentence(18, "so that it is FOUND by the judge behind that DAY", () -> {
            DogJudge x = come(heirs("010;020"), 0, 0, COAT, 1, 1, COAT);
            x.taste(1, COAT, 0);
            dueSuit(x, 0, 0, 0, NONE, NONE, NONE);
            // One coat more is 1 to 2, less by habit; of like ones it is found, as it was ahead.
            dueSuit(set(x, HABIT, 0), 0, 1, 1, 1, NONE, NONE);
            // The other's coat of 3 does not fade on its own day, and is gone by day 3.
            DogJudge y = set(come(heirs("010;030"), 0, 1, COAT), HABIT, 0, FADES, 9);
            dueSuit(y, 0, 0, 3, 1, 1, 1);
            dueSuit(set(y, FADES, 1), 0, 3, 1, 10, NONE, NONE);
            // Of heir 5, too, the habit tells: 4 and 3 are 7 only, and heir 0 was found.
            dueSuit(come(heirs("070;000;000;000;000;040"), 0, 0, COAT), 5, 0, 3, 1, 1, 1);
        });
    }

    private static void leastRow() {
        sentence(18, "each told behind all others of its DAY", () -> {
            // Ahead of the other's sausage (4) its own would be 6; behind it, it is 3, then 2.
            dueSuit(come(heirs("200;300"), 0, 0, SAUSAGE), 1, 0, 2, 0, 0, NONE);
            dueSuit(come(heirs("200;300"), 9, 0, SAUSAGE), 1, 9, 1, 0, NONE, NONE);
            // From day 4 on the dog is hungry again, and its own is 6.
            dueSuit(come(heirs("200;300"), 0, 0, SAUSAGE), 1, 3, 2, 0, 0, NONE);
            dueSuit(come(heirs("200;300"), 0, 0, SAUSAGE), 1, 4, 1, 12, NONE, NONE);
            dueSuit(set(come(heirs("200;300"), 9, 0, SAUSAGE), SLEEPS, 511), 1, 9, 2, 27, 27, NONE);
        });
        sentence(18, "of like ones the least row of 3 times the DAY and the THING", () -> {
            dueSuit(heirs("111"), 0, 9, 1, 0, NONE, NONE);
            dueSuit(heirs("011"), 0, 9, 1, 1, NONE, NONE);
            dueSuit(heirs("001"), 0, 9, 1, 2, NONE, NONE);
            dueSuit(set(heirs("111"), SLEEPS, 1), 0, 9, 1, 3, NONE, NONE);
            dueSuit(set(heirs("001"), SLEEPS, 511), 0, 9, 1, 29, NONE, NONE);
            // A coat and a stick of one day, or a coat of each of two days: the first one is the least.
            DogJudge x = come(heirs("022;040"), 0, 1, COAT);
            dueSuit(set(x, HABIT, 2), 0, 1, 2, 1, 2, NONE);
            dueSuit(set(x, HABIT, 0), 0, 1, 2, 1, 1, NONE);
        });
        sentence(18, "(none less than the one ahead; so they are told)", () -> {
            // A coat, then a sausage would be 12 to 11; a sausage, then a coat is 9.
            DogJudge x = set(come(heirs("330;092"), 0, 0, SAUSAGE, 0, 1, COAT, 0, 1, STICK), HABIT, 3);
            dueSuit(x, 0, 0, NONE, NONE, NONE, NONE);
            // Behind a stick, a coat, then a stick are 9 to 8; a stick, then a coat would be 6.
            DogJudge y = set(come(heirs("033;080"), 0, 0, STICK, 0, 1, COAT), HABIT, 3);
            dueSuit(y, 0, 0, 2, 1, 2, NONE);
        });
    }

    private static void suitsInSleep() {
        sentence(18, "What is brought by who is not there, or on a DAY that it SLEEPS, does not count.", () -> {
            DogJudge x = set(come(heirs("010;030"), 0, 1, COAT, 0, 2, COAT), HABIT, 0);
            dueSuit(x, 0, 1, 3, 1, 1, 1);
            dueSuit(set(x, SLEEPS, 2), 0, 1, 3, 1, 1, 1);
            dueSuit(set(x, SLEEPS, 1), 0, 1, 1, 4, NONE, NONE);
            dueSuit(x, 1, 1, 1, 4, NONE, NONE);
            dueSuit(set(x, SLEEPS, 3), 0, 1, NONE, NONE, NONE, NONE);
            dueSuit(set(x, SLEEPS, ALL_DAYS), 1, 9, NONE, NONE, NONE, NONE);
        });
    }

    private static void turnsInSleep() {
        sentence(19, "What is brought by who is not there, or on a DAY that it SLEEPS, does not count.", () -> {
            DogJudge x = come(heirs("010;090"), 0, 2, COAT);
            due(0, x.replies(0, 1, 2, 0));
            // The other one's day is slept through, then the first one's.
            x.set(SLEEPS, 2);
            due(1, x.replies(0, 1, 2, 0));
            due(1, x.replies(0, 1, 2, 1));
            x.set(SLEEPS, 1);
            due(0, x.replies(0, 1, 2, 0));
            due(NONE, x.replies(0, 1, 1, 1));
            // What is told of a day that is slept through is no help, either.
            DogJudge y = set(come(heirs("090;010;050"), 0, 2, COAT), SLEEPS, 1);
            due(1, y.replies(0, 1, 3, 0));
            due(0, y.replies(1, 0, 3, 0));
            due(0, y.replies(0, 1, 1, 0));
            due(0, y.replies(0, 1, 2, 0));
        });
    }

    private static void whoseTurns() {
        sentence(19, "TURNS: 1, 0 (what = 0), what the first one brings (1; NONE). BAD: also one HEIR twice.", () -> {
            DogJudge x = heirs("010;020");
            due(1, x.replies(0, 1, 1, 0));
            due(1, x.replies(0, 1, 1, 1));
            due(BAD, x.replies(0, 0, 1, 0));
            due(BAD, x.replies(1, 1, 1, 1));
            due(BAD, x.replies(2, 2, 1, 1));
            due(BAD, x.replies(0, 1, 1, -1));
            due(BAD, x.replies(0, 1, 1, 2));
            due(BAD, x.replies(0, 1, 1, LEAST));
            due(BAD, x.replies(0, 1, 1, MOST));
        });
        sentence(19, "BAD -2 (a number not as told, no such thing)", () -> {
            DogJudge x = heirs("010;020");
            due(BAD, x.replies(-1, 0, 1, 0));
            due(BAD, x.replies(2, 0, 1, 0));
            due(BAD, x.replies(0, -1, 1, 0));
            due(BAD, x.replies(0, 2, 1, 0));
            due(BAD, x.replies(LEAST, MOST, 1, 0));
            due(BAD, x.replies(MOST, LEAST, 1, 0));
            due(BAD, heirs("010").replies(0, 1, 1, 0));
            due(BAD, new DogJudge().replies(0, 1, 1, 0));
            due(1, heirs(SIX_HEIRS).replies(5, 4, 1, 0));
            due(1, heirs(SIX_HEIRS).replies(4, 5, 1, 0));
            due(BAD, heirs(SIX_HEIRS).replies(5, 6, 1, 0));
        });
        sentence(19, "With a FAULT there are none.", () -> due(BAD, heirs("010;020;").replies(0, 1, 1, 0)));
    }

    private static void lengthOfTurns() {
        sentence(19, "two HEIRS come by turns on DAYS 0 to n less 1 (n 1 to 4), the first one on DAY 0", () -> {
            DogJudge x = heirs("200;500");
            int[] first = {1, 0, 0, 0};
            int[] second = {1, 1, 1, 1};
            for (int n = 1; n <= 4; n++) {
                due(first[n - 1], x.replies(0, 1, n, 0));
                due(second[n - 1], x.replies(1, 0, n, 0));
            }
            due(BAD, x.replies(0, 1, 0, 0));
            due(BAD, x.replies(0, 1, 5, 0));
            due(BAD, x.replies(0, 1, -1, 0));
            due(BAD, x.replies(0, 1, LEAST, 0));
            due(BAD, x.replies(0, 1, MOST, 0));
            // By turns of 0 each is one coat behind or ahead: of like ones who was found ahead.
            DogJudge y = set(heirs("030;020"), HABIT, 0);
            int[] found = {1, 1, 1, 1};
            int[] other = {1, 0, 1, 0};
            for (int n = 1; n <= 4; n++) {
                due(found[n - 1], y.replies(0, 1, n, 0));
                due(other[n - 1], y.replies(1, 0, n, 0));
            }
        });
        sentence(19, "the first one wants to be FOUND by the judge behind DAY n less 1", () -> {
            // What is told of day 1 tells from n = 2 on.
            DogJudge x = come(heirs("010;000;090"), 1, 2, COAT);
            x.taste(1, COAT, 0);
            due(1, x.replies(0, 1, 1, 0));
            due(0, x.replies(0, 1, 2, 0));
            due(NONE, x.replies(0, 1, 2, 1));
        });
    }

    private static void bestTurns() {
        sentence(19, "each with a THING, or none (3)", () -> {
            // Who brings anything on day 0 is found behind it, then heir 1 behind day 1 as the least of
            // two, and stays of like ones behind day 2; else heir 2 is found, then nobody of those two.
            DogJudge x = come(heirs("222;020;011;000"), 0, 2, COAT, 1, 1, COAT, 1, 2, STICK, 2, 1, STICK);
            x.set(FADES, 9);
            due(1, x.replies(0, 3, 3, 0));
            due(3, x.replies(0, 3, 3, 1));
            // The other one does best by bringing nothing: it fades, and heir 2 is found, to stay of like ones.
            DogJudge y = set(come(heirs("060;090;060"), 0, 1, COAT, 1, 2, COAT, 2, 2, STICK), HABIT, 9, FADES, 5);
            due(0, y.replies(0, 1, 3, 0));
        });
        sentence(19, "whether it is, both doing their best: 1, 0", () -> {
            // By a sausage of 2 on day 0 the other's of day 1 is 3, not 6; 2 for a coat is less.
            due(1, heirs("220;300").replies(0, 1, 2, 0));
            due(0, heirs("220;300").replies(0, 1, 2, 1));
            due(0, heirs("220;500").replies(0, 1, 2, 0));
            due(0, heirs("220;030").replies(0, 1, 2, 1));
            due(0, heirs("220;050").replies(0, 1, 2, 0));
        });
        sentence(19, "told behind all others of its DAY", () -> {
            // Ahead of the other's sausage (4) its own would be 6; behind it, it is 3.
            due(0, come(heirs("300;200"), 0, 1, SAUSAGE).replies(0, 1, 1, 0));
            due(1, come(heirs("400;200"), 0, 1, SAUSAGE).replies(0, 1, 1, 0));
            // By hunger 1 the dog is hungry again on day 2: 6 to a coat of 5; by hunger 2 it is 3.
            DogJudge x = set(come(heirs("300;000;050"), 0, 1, SAUSAGE, 2, 2, COAT), HUNGER, 1, SLEEPS, 2);
            due(0, x.replies(0, 1, 3, 1));
            x.set(FADES, 9);
            due(1, x.replies(0, 1, 3, 0));
            x.set(HUNGER, 2);
            due(0, x.replies(0, 1, 3, 0));
        });
        sentence(19, "VISITS, 24 at most (0 on)", () -> {
            // What comes by turns is not told, so it needs no room.
            DogJudge x = fullOfVisits(heirs("020;030"));
            due(1, x.replies(0, 1, 1, 0));
            due(1, x.replies(0, 1, 1, 1));
            due(0, x.replies(0, 1, 2, 0));
            due(24, x.count(2));
        });
        sentence(19, "the other one that it is not", () -> {
            // The other one can't be found, but by its sausage of no good heir 0's of day 2 is 3 to 5.
            DogJudge x = set(come(heirs("300;050;000"), 1, 1, COAT), SLEEPS, 1);
            due(0, x.replies(0, 2, 3, 0));
            due(NONE, x.replies(0, 2, 3, 1));
            x.set(SLEEPS, 3);
            due(1, x.replies(0, 2, 3, 0));
            due(0, x.replies(0, 2, 3, 1));
        });
        sentence(19, "the least (0 to 3) by which it is; NONE: by none.", () -> {
            due(0, heirs("111;000").replies(0, 1, 1, 1));
            due(1, heirs("011;000").replies(0, 1, 1, 1));
            due(2, heirs("001;000").replies(0, 1, 1, 1));
            due(NONE, heirs("000;000").replies(0, 1, 1, 1));
            due(0, heirs("000;000").replies(0, 1, 1, 0));
            due(0, come(heirs("010;000"), 0, 0, COAT).replies(0, 1, 1, 1));
        });
    }
}
