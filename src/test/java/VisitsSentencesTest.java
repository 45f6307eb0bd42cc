/** Promises 7 to 11: each sentence that names an edge of tastes, ways, visits. */
public final class VisitsSentencesTest extends Sentences {
    public static void main(String[] args) {
        taste();
        tasteOfBoth();
        set();
        sleeps();
        visit();
        back();
        read();
        readUpToARefusal();
        end();
    }

    private static void taste() {
        sentence(7, "DOGS are 0, the judge, and 1, the one next door.", () -> {
            DogJudge x = new DogJudge();
            for (int i = 0; i < 6; i++) due(1, x.taste(i / 3, i % 3, i + 2));
            for (int i = 0; i < 6; i++) due(i + 2, x.taste(i / 3, i % 3, 0));
            due(BAD, x.taste(-1, 0, 5));
            due(BAD, x.taste(2, 0, 5));
            due(BAD, x.taste(LEAST, 0, 5));
            due(BAD, x.taste(MOST, 0, 5));
        });
        sentence(7, "(THINGS 0 to 2)", () -> {
            DogJudge x = new DogJudge();
            due(1, x.taste(1, 0, 5));
            due(1, x.taste(1, 2, 5));
            due(BAD, x.taste(0, -1, 5));
            due(BAD, x.taste(0, 3, 5));
            due(BAD, x.taste(1, -1, 5));
            due(BAD, x.taste(1, LEAST, 5));
            due(BAD, x.taste(1, MOST, 5));
        });
        sentence(7, "TASTE of a DOG for a THING (0 to 9; 1 at first)", () -> {
            DogJudge x = new DogJudge();
            due(1, x.taste(0, COAT, 0));
            due(0, x.taste(0, COAT, 9));
            due(BAD, x.taste(0, COAT, 10));
            due(BAD, x.taste(0, COAT, -1));
            due(BAD, x.taste(0, COAT, LEAST));
            due(BAD, x.taste(0, COAT, MOST));
            due(9, x.taste(0, COAT, 9));
        });
    }

    private static void tasteOfBoth() {
        sentence(7, "TASTE: what it was. BAD.", () -> {
            DogJudge x = new DogJudge();
            due(1, x.taste(0, 0, 9));
            due(1, x.taste(1, 0, 0));
            due(9, x.taste(0, 0, 3));
            due(0, x.taste(1, 0, 3));
            due(3, x.taste(0, 0, 3));
            due(BAD, x.taste(2, 3, 10));
            due(BAD, x.taste(-1, -1, -1));
            due(3, x.taste(1, 0, 0));
        });
    }

    private static void set() {
        int[] first = {1, 3, 0, 0, 2};
        String[] words = {"HABIT (0 to 9; 1 at first)", "HUNGER (0 to 9; 3 at first)", "FADES (0 to 9; 0 at first)",
            "", "NIGHT (0 to 9; 2 at first)"};
        for (int what : new int[] {HABIT, HUNGER, FADES, NIGHT}) {
            sentence(8, words[what], () -> {
                DogJudge x = new DogJudge();
                due(first[what], x.set(what, 9));
                due(9, x.set(what, 0));
                due(BAD, x.set(what, 10));
                due(BAD, x.set(what, -1));
                due(BAD, x.set(what, LEAST));
                due(BAD, x.set(what, MOST));
                due(0, x.set(what, 9));
            });
        }
        sentence(8, "HABIT (what = 0), HUNGER (1), FADES (2), SLEEPS (3; 30 bits), NIGHT (4): what it was. BAD.", () -> {
            DogJudge x = new DogJudge();
            due(BAD, x.set(-1, 0));
            due(BAD, x.set(5, 0));
            due(BAD, x.set(LEAST, 0));
            due(BAD, x.set(MOST, 0));
            for (int what = 0; what < 5; what++) due(first[what], x.set(what, what + 5));
            for (int what = 0; what < 5; what++) due(what + 5, x.set(what, 0));
        });
    }

    private static void sleeps() {
        sentence(8, "SLEEPS (3; 30 bits)", () -> {
            DogJudge x = new DogJudge();
            due(0, x.set(SLEEPS, ALL_DAYS));
            due(BAD, x.set(SLEEPS, ALL_DAYS + 1));
            due(BAD, x.set(SLEEPS, -1));
            due(BAD, x.set(SLEEPS, LEAST));
            due(BAD, x.set(SLEEPS, MOST));
            due(ALL_DAYS, x.count(7));
            due(ALL_DAYS, x.set(SLEEPS, 1 << 29));
            due(1 << 29, x.set(SLEEPS, 1));
            due(1, x.set(SLEEPS, 0));
        });
        sentence(8, "SLEEPS (DAYS as bits 0 to 29; none at first): for both.", () -> {
            DogJudge x = come(heirs("010"), 0, 0, COAT, 29, 0, COAT);
            x.set(HABIT, 0);
            for (int dog = 0; dog < 2; dog++) {
                x.set(SLEEPS, 1);
                due(0, x.liking(dog, 28, 0));
                due(1, x.liking(dog, 29, 0));
                x.set(SLEEPS, 1 << 29);
                due(1, x.liking(dog, 0, 0));
                due(1, x.liking(dog, 29, 0));
                x.set(SLEEPS, ALL_DAYS);
                due(0, x.liking(dog, 29, 0));
                x.set(SLEEPS, ALL_DAYS ^ 1 ^ 1 << 29);
                due(2, x.liking(dog, 29, 0));
            }
        });
    }

    private static void visit() {
        sentence(9, "DAYS are 0 to 29.", () -> {
            DogJudge x = new DogJudge();
            due(BAD, x.visit(-1, 0, 0));
            due(BAD, x.visit(30, 0, 0));
            due(BAD, x.visit(LEAST, 0, 0));
            due(BAD, x.visit(MOST, 0, 0));
            due(1, x.visit(0, 0, 0));
            due(2, x.visit(29, 0, 0));
        });
        sentence(9, "on a DAY an HEIR (0 to 5) brings a THING", () -> {
            DogJudge x = heirs("111");
            due(BAD, x.visit(0, -1, 0));
            due(BAD, x.visit(0, 6, 0));
            due(BAD, x.visit(0, LEAST, 0));
            due(BAD, x.visit(0, MOST, 0));
            // Also one who is not there.
            due(1, x.visit(0, 5, 0));
            due(2, x.visit(0, 0, 0));
            due(1, x.count(3));
        });
        sentence(9, "(THINGS 0 to 2)", () -> {
            DogJudge x = new DogJudge();
            due(BAD, x.visit(0, 0, -1));
            due(BAD, x.visit(0, 0, 3));
            due(BAD, x.visit(0, 0, LEAST));
            due(BAD, x.visit(0, 0, MOST));
            due(1, x.visit(0, 0, 2));
            due(2, x.visit(0, 0, 0));
        });
        sentence(9, "VISITS, 24 at most (0 on)", () -> {
            DogJudge x = new DogJudge();
            for (int i = 1; i <= 24; i++) due(i, x.visit(i % 3, 5, 2));
            due(FULL, x.visit(0, 0, 0));
            due(FULL, x.visit(29, 5, 2));
            due(24, x.count(2));
            due(23, x.back());
            due(24, x.visit(0, 0, 0));
            due(FULL, x.visit(0, 0, 0));
        });
        sentence(9, "A VISIT more: how many. BAD; FULL.", () -> {
            DogJudge x = new DogJudge();
            due(BAD, x.visit(-1, -1, -1));
            due(BAD, x.visit(30, 6, 3));
            due(1, x.visit(29, 5, 2));
            due(2, x.visit(29, 5, 2));
            fullOfVisits(x);
            due(FULL, x.visit(29, 5, 2));
            due(BAD, x.visit(30, 6, 3));
        });
        sentence(9, "Refusals, the first that fits, in the order told at each act", () -> {
            DogJudge x = fullOfVisits(new DogJudge());
            due(BAD, x.visit(30, 0, 0));
            due(BAD, x.visit(0, 6, 0));
            due(BAD, x.visit(0, 0, 3));
            due(FULL, x.visit(0, 0, 0));
        });
    }

    private static void back() {
        sentence(10, "The last VISIT is undone: how many are left.", () -> {
            DogJudge x = fullOfVisits(come(heirs("005"), 29, 0, STICK, 0, 0, STICK, 29, 0, SAUSAGE));
            for (int left = 23; left >= 3; left--) due(left, x.back());
            due(2, x.back());
            // The last one told is that of day 0, not that of day 29.
            due(5, x.liking(0, 0, 0));
            due(1, x.back());
            due(0, x.liking(0, 28, 0));
            due(5, x.liking(0, 29, 0));
            due(0, x.back());
            due(0, x.liking(0, 29, 0));
        });
        sentence(10, "NOT: there is none.", () -> {
            DogJudge x = new DogJudge();
            due(NOT, x.back());
            due(NOT, x.back());
            due(0, x.count(2));
            due(1, x.visit(0, 0, 0));
            due(0, x.back());
            due(NOT, x.back());
            due(1, x.visit(0, 0, 0));
        });
    }

    private static void read() {
        sentence(11, "BAD; NULL.", () -> {
            DogJudge x = new DogJudge();
            due(BAD, x.read(-1));
            due(BAD, x.read(4));
            due(BAD, x.read(LEAST));
            due(BAD, x.read(MOST));
            due(0, x.count(8));
            for (int s = 0; s < 4; s++) due(NULL, x.read(s));
            due(1, x.count(8));
            x.sheet(3, 0, 3);
            due(1, x.read(3));
            x.lose(3);
            due(NULL, x.read(3));
            due(1, x.count(2));
        });
        sentence(11, "three for each (DAY, HEIR, THING), as many as are whole", () -> {
            int[] took = {0, 0, 0, 1, 1, 1, 2};
            for (int size = 0; size <= 6; size++) {
                DogJudge x = new DogJudge();
                x.sheet(0, 0, size);
                due(took[size], x.read(0));
                due(took[size], x.count(2));
            }
            DogJudge x = new DogJudge();
            x.sheet(0, 2, 48);
            due(16, x.read(0));
            x.sheet(0, 2, 47);
            due(8, x.read(0));
        });
        sentence(11, "VISITS more, behind those that there are", () -> {
            // The sausage read comes behind that which was told on its day.
            DogJudge x = items(come(heirs("300;400"), 0, 0, SAUSAGE), 1, 1, 0, 1, SAUSAGE);
            due(1, x.read(1));
            due(6, x.liking(0, 0, 0));
            due(4, x.liking(0, 0, 1));
            due(2, x.count(2));
            due(1, x.back());
            due(0, x.liking(0, 0, 1));
        });
    }

    private static void readUpToARefusal() {
        sentence(11, "one by one as visit() takes them, up to the first that it refuses: how many it took.", () -> {
            int[][] wrongs = {{30, 0, 0}, {-1, 0, 0}, {0, 6, 0}, {0, -1, 0}, {0, 0, 3}, {0, 0, -1}};
            for (int[] wrong : wrongs) {
                DogJudge x = items(heirs("111"), 0, 0, 29, 5, 2, wrong[0], wrong[1], wrong[2], 0, 0, 0);
                due(1, x.read(0));
                due(1, x.count(2));
                // That a visit is refused is no finding.
                due(0, x.count(8));
                x.put(0, 0, 0, 99);
                due(0, x.read(0));
                due(1, x.count(2));
            }
        });
        sentence(11, "VISITS, 24 at most (0 on)", () -> {
            DogJudge x = fullOfVisits(new DogJudge());
            x.back();
            x.back();
            x.sheet(0, 0, 9);
            due(2, x.read(0));
            due(24, x.count(2));
            due(0, x.read(0));
            due(24, x.count(2));
            due(0, x.count(8));
        });
        sentence(11, "VISITS more, behind those that there are, from a SHEET: its items", () -> {
            // A row of any form is read, with its signs: 256 is 0 as a byte, 255 is -1.
            for (int form = 0; form < 3; form++) {
                DogJudge x = items(heirs("111"), form, form, 256, 0, 0);
                due(form == 0 ? 1 : 0, x.read(form));
                x.put(form, form, 0, 255);
                due(0, x.read(form));
                x.put(form, form, 0, 65536);
                due(form < 2 ? 1 : 0, x.read(form));
            }
        });
    }
}
