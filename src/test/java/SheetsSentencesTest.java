/** Promises 28 to 35: each sentence that names an edge of sheets, of counts and of the digest. */
public final class SheetsSentencesTest extends Sentences {
    public static void main(String[] args) {
        sheet();
        sheetAnew();
        lose();
        put();
        lowestBits();
        get();
        findings();
        copy();
        copyNothing();
        write();
        count();
        digest();
        end();
    }

    private static void dueItems(DogJudge x, int s, int form, int... items) {
        for (int i = 0; i < items.length; i++) due(items[i], x.get(s, form, i));
    }

    private static void sheet() {
        sentence(28, "SHEETS 0 .. 3 are LOST (at first) or a row of a FORM", () -> {
            DogJudge x = new DogJudge();
            for (int s = 0; s < 4; s++) due(s + 1, x.sheet(s, 0, s + 1));
            for (int s = 0; s < 4; s++) due(s + 1, x.lose(s));
            due(BAD, x.sheet(-1, 0, 1));
            due(BAD, x.sheet(4, 0, 1));
            due(BAD, x.sheet(LEAST, 0, 1));
            due(BAD, x.sheet(MOST, 0, 1));
        });
        sentence(28, "0 bytes, 1 shorts, 2 ints", () -> {
            DogJudge x = new DogJudge();
            due(BAD, x.sheet(0, -1, 1));
            due(BAD, x.sheet(0, 3, 1));
            due(BAD, x.sheet(0, LEAST, 1));
            due(BAD, x.sheet(0, MOST, 1));
            due(NULL, x.lose(0));
            for (int form = 0; form < 3; form++) due(1, x.sheet(form, form, 1));
        });
        sentence(28, "BAD: SHEET, FORM, above 48; SIZE.", () -> {
            DogJudge x = new DogJudge();
            due(BAD, x.sheet(0, 0, 49));
            due(BAD, x.sheet(0, 0, MOST));
            due(NULL, x.lose(0));
            due(48, x.sheet(0, 0, 48));
            due(BAD, x.sheet(0, 0, 49));
            due(1, x.put(0, 0, 47, 5));
            due(5, x.get(0, 0, 47));
            due(0, x.sheet(0, 0, 0));
            due(0, x.lose(0));
        });
        sentence(28, "5 SIZE: below 0", () -> {
            DogJudge x = items(new DogJudge(), 0, 1, 7, 8);
            due(SIZE, x.sheet(0, 2, -1));
            due(5, x.count(8));
            due(SIZE, x.sheet(1, 0, LEAST));
            dueItems(x, 0, 1, 7, 8);
            due(NULL, x.lose(1));
            due(0, x.sheet(0, 0, 0));
        });
        sentence(28, "Refusals, the first that fits, in the order told at each act", () -> {
            DogJudge x = new DogJudge();
            due(BAD, x.sheet(4, 0, -1));
            due(BAD, x.sheet(0, 3, -1));
            due(BAD, x.sheet(-1, -1, 49));
            due(0, x.count(8));
        });
    }

    private static void sheetAnew() {
        sentence(28, "of 0 to 48 items (0 at first)", () -> {
            DogJudge x = new DogJudge();
            for (int form = 0; form < 3; form++) {
                due(48, x.sheet(1, form, 48));
                for (int i = 0; i < 48; i++) due(0, x.get(1, form, i));
                x.put(1, form, 0, 7);
                x.put(1, form, 47, 7);
            }
        });
        sentence(28, "A SHEET is a new row of a FORM with n items: n.", () -> {
            DogJudge x = items(new DogJudge(), 1, 0, 7, 8, 9);
            due(2, x.sheet(1, 0, 2));
            dueItems(x, 1, 0, 0, 0);
            due(INDEX, x.put(1, 0, 2, 1));
            due(3, x.sheet(1, 2, 3));
            dueItems(x, 1, 2, 0, 0, 0);
            due(CAST, x.put(1, 0, 0, 1));
            // Behind a shorter row, and behind one that was lost, all are 0, too.
            items(x, 1, 2, 7, 8, 9);
            x.sheet(1, 2, 0);
            x.sheet(1, 2, 3);
            dueItems(x, 1, 2, 0, 0, 0);
            items(x, 1, 2, 7, 8, 9);
            due(3, x.lose(1));
            due(3, x.sheet(1, 2, 3));
            dueItems(x, 1, 2, 0, 0, 0);
        });
    }

    private static void lose() {
        sentence(29, "It is LOST: how many items it had. BAD; NULL.", () -> {
            DogJudge x = new DogJudge();
            due(48, x.sheet(0, 0, 48));
            due(48, x.lose(0));
            due(0, x.sheet(0, 0, 0));
            due(0, x.lose(0));
            due(BAD, x.lose(-1));
            due(BAD, x.lose(4));
            due(BAD, x.lose(LEAST));
            due(BAD, x.lose(MOST));
            due(0, x.count(8));
            due(NULL, x.lose(0));
            due(1, x.count(8));
            due(NULL, x.put(0, 0, 0, 0));
            due(NULL, x.write(0, 0));
            due(NULL, x.read(0));
        });
    }

    private static void put() {
        sentence(30, "BAD; NULL; CAST; INDEX.", () -> {
            DogJudge x = items(new DogJudge(), 1, 1, 5, 6);
            for (int wrong : new int[] {-1, 4, LEAST, MOST}) due(BAD, x.put(wrong, 1, 0, 9));
            for (int wrong : new int[] {-1, 3, LEAST, MOST}) due(BAD, x.put(1, wrong, 0, 9));
            due(0, x.count(8));
            due(NULL, x.put(0, 1, 0, 9));
            due(1, x.count(8));
            due(CAST, x.put(1, 0, 0, 9));
            due(CAST, x.put(1, 2, 0, 9));
            due(3, x.count(8));
            for (int wrong : new int[] {-1, 2, 48, LEAST, MOST}) due(INDEX, x.put(1, 1, wrong, 9));
            due(2, x.count(8));
            dueItems(x, 1, 1, 5, 6);
        });
        sentence(30, "2 INDEX: there is no such item", () -> {
            DogJudge x = new DogJudge();
            x.sheet(0, 2, 0);
            due(INDEX, x.put(0, 2, 0, 9));
            due(INDEX, x.put(0, 2, -1, 9));
            x.sheet(0, 2, 48);
            due(1, x.put(0, 2, 0, 9));
            due(1, x.put(0, 2, 47, 9));
            due(INDEX, x.put(0, 2, 48, 9));
            // A row that became shorter has no more than its own items.
            x.sheet(0, 2, 1);
            due(INDEX, x.put(0, 2, 1, 9));
        });
        sentence(30, "Refusals, the first that fits, in the order told at each act", () -> {
            DogJudge x = items(new DogJudge(), 1, 1, 5, 6);
            due(BAD, x.put(0, 3, -1, 0));
            due(BAD, x.put(1, 3, -1, 0));
            due(NULL, x.put(0, 0, -1, 0));
            due(CAST, x.put(1, 0, -1, 0));
            due(CAST, x.put(1, 2, 2, 0));
            due(INDEX, x.put(1, 1, 2, 0));
        });
    }

    private static void lowestBits() {
        sentence(30, "becomes v (the lowest bits that it has, with its sign", () -> {
            DogJudge x = new DogJudge();
            for (int form = 0; form < 3; form++) x.sheet(form, form, 1);
            int[] told = {127, 128, 255, 256, -128, -129, 32767, 32768, 65535, 65536, -32768, -32769, MOST, LEAST, -1};
            int[] bytes = {127, -128, -1, 0, -128, 127, -1, 0, -1, 0, 0, -1, -1, 0, -1};
            int[] shorts = {127, 128, 255, 256, -128, -129, 32767, -32768, -1, 0, -32768, 32767, -1, 0, -1};
            for (int k = 0; k < told.length; k++) {
                for (int form = 0; form < 3; form++) due(1, x.put(form, form, 0, told[k]));
                due(bytes[k], x.get(0, 0, 0));
                due(shorts[k], x.get(1, 1, 0));
                due(told[k], x.get(2, 2, 0));
            }
        });
        sentence(30, "by write(), too)", () -> {
            for (int form = 0; form < 3; form++) {
                DogJudge x = come(heirs("000;000;000;000;000;010"), 1, 5, COAT);
                x.sheet(0, form, 2);
                due(2, x.write(0, 0));
                dueItems(x, 0, form, NONE, 5);
            }
        });
    }

    private static void get() {
        sentence(31, "BAD: the least int; so are NULL, CAST, INDEX (count() 8 tells).", () -> {
            DogJudge x = items(new DogJudge(), 1, 1, 5, 6);
            for (int wrong : new int[] {-1, 4, LEAST, MOST}) due(LEAST, x.get(wrong, 1, 0));
            for (int wrong : new int[] {-1, 3, LEAST, MOST}) due(LEAST, x.get(1, wrong, 0));
            due(0, x.count(8));
            due(LEAST, x.get(0, 1, 0));
            due(1, x.count(8));
            due(LEAST, x.get(1, 0, 0));
            due(3, x.count(8));
            for (int wrong : new int[] {-1, 2, 48, LEAST, MOST}) {
                x.lose(0);
                due(LEAST, x.get(1, 1, wrong));
                due(2, x.count(8));
            }
            // What is well is no finding, and an item may be the least int itself.
            dueItems(x, 1, 1, 5, 6);
            due(2, x.count(8));
            dueItems(items(x, 2, 2, LEAST), 2, 2, LEAST);
            due(2, x.count(8));
        });
        sentence(31, "Refusals, the first that fits, in the order told at each act", () -> {
            DogJudge x = items(new DogJudge(), 1, 1, 5, 6);
            x.get(0, 3, -1);
            due(0, x.count(8));
            x.get(1, 0, -1);
            due(3, x.count(8));
            x.get(0, 0, -1);
            due(1, x.count(8));
            x.get(1, 3, 2);
            due(1, x.count(8));
            x.get(1, 1, 2);
            due(2, x.count(8));
        });
    }

    private static void findings() {
        sentence(29, "1 NULL: the SHEET is LOST", () -> {
            DogJudge x = items(items(new DogJudge(), 0, 0, 1), 1, 0, 2);
            for (int s = 0; s < 4; s++) {
                x.lose(s);
                due(NULL, x.lose(s));
                due(NULL, x.read(s));
                due(NULL, x.write(1, s));
                due(NULL, x.put(s, 2, 0, 0));
                due(LEAST, x.get(s, 2, 0));
                due(NULL, x.copy(s, 0, s, 0, 0));
                due(1, x.count(8));
                items(x, s, 2, 5);
                due(5, x.get(s, 2, 0));
            }
        });
        sentence(30, "3 CAST: it has another FORM", () -> {
            for (int form = 0; form < 3; form++) {
                for (int as = 0; as < 3; as++) {
                    DogJudge x = items(new DogJudge(), 0, form, 5);
                    due(as == form ? 1 : CAST, x.put(0, as, 0, 6));
                    due(as == form ? 6 : LEAST, x.get(0, as, 0));
                    due(as == form ? 0 : 3, x.count(8));
                    due(as == form ? 6 : 5, x.get(0, form, 0));
                }
            }
        });
        sentence(32, "4 STORE: unlike FORMS", () -> {
            for (int form = 0; form < 3; form++) {
                for (int other = 0; other < 3; other++) {
                    DogJudge x = items(items(new DogJudge(), 0, form, 5), 1, other, 6);
                    due(other == form ? 1 : STORE, x.copy(0, 0, 1, 0, 1));
                    due(other == form ? 0 : 4, x.count(8));
                    due(other == form ? 5 : 6, x.get(1, other, 0));
                }
            }
        });
        sentence(34, "FINDINGS (answers -10 less the number; they change nothing but count() 8)", () -> {
            DogJudge x = items(items(new DogJudge(), 0, 0, 1), 1, 1, 1);
            due(-11, x.lose(2));
            due(1, x.count(8));
            due(-12, x.put(0, 0, 1, 0));
            due(2, x.count(8));
            due(-13, x.put(0, 1, 0, 0));
            due(3, x.count(8));
            due(-14, x.copy(0, 0, 1, 0, 1));
            due(4, x.count(8));
            due(-15, x.sheet(0, 0, -1));
            due(5, x.count(8));
        });
    }

    private static void copy() {
        sentence(32, "BAD: the SHEETS; NULL: s, t; STORE;", () -> {
            DogJudge x = items(items(new DogJudge(), 0, 0, 1, 2), 1, 1, 3, 4);
            for (int wrong : new int[] {-1, 4, LEAST, MOST}) {
                due(BAD, x.copy(wrong, 0, 0, 0, 0));
                due(BAD, x.copy(0, 0, wrong, 0, 0));
                due(BAD, x.copy(wrong, 0, 3, -1, 0));
                due(BAD, x.copy(3, -1, wrong, 0, 0));
            }
            due(0, x.count(8));
            due(NULL, x.copy(3, 0, 0, 0, 0));
            due(NULL, x.copy(0, 0, 3, 0, 0));
            due(NULL, x.copy(3, 0, 3, 0, 0));
            due(NULL, x.copy(3, -1, 0, 0, 0));
            due(1, x.count(8));
            due(STORE, x.copy(0, 0, 1, 0, 1));
            due(STORE, x.copy(0, 0, 1, 0, 0));
            due(STORE, x.copy(0, 0, 1, 9, -1));
            due(4, x.count(8));
            due(INDEX, x.copy(0, 0, 0, 9, 1));
            due(2, x.count(8));
            dueItems(x, 0, 0, 1, 2);
            dueItems(x, 1, 1, 3, 4);
        });
        sentence(32, "INDEX: i, j or n below 0, not so many there", () -> {
            DogJudge x = items(items(new DogJudge(), 0, 2, 1, 2, 3), 1, 2, 7, 8);
            for (int wrong : new int[] {-1, LEAST, MOST, MOST - 1, 49}) {
                due(INDEX, x.copy(0, wrong, 1, 0, 1));
                due(INDEX, x.copy(0, 0, 1, wrong, 1));
                due(INDEX, x.copy(0, 0, 1, 0, wrong));
                due(INDEX, x.copy(0, 1, 1, 1, wrong));
                due(INDEX, x.copy(0, wrong, 1, wrong, wrong));
            }
            due(INDEX, x.copy(0, 2, 1, 0, 2));
            due(INDEX, x.copy(0, 0, 1, 1, 2));
            due(INDEX, x.copy(0, 0, 1, 0, 3));
            due(INDEX, x.copy(1, 0, 0, 0, 3));
            dueItems(x, 0, 2, 1, 2, 3);
            dueItems(x, 1, 2, 7, 8);
            due(1, x.copy(0, 1, 1, 0, 2));
            dueItems(x, 1, 2, 2, 3);
            due(1, x.copy(1, 1, 0, 2, 1));
            dueItems(x, 0, 2, 1, 2, 3);
        });
        sentence(32, "come to SHEET t (perhaps s, as they were), from j on: 1.", () -> {
            DogJudge x = items(new DogJudge(), 0, 0, 1, 2, 3, 4, 5);
            due(1, x.copy(0, 0, 0, 1, 4));
            dueItems(x, 0, 0, 1, 1, 2, 3, 4);
            due(1, x.copy(0, 1, 0, 0, 4));
            dueItems(x, 0, 0, 1, 2, 3, 4, 4);
            due(1, x.copy(0, 0, 0, 0, 5));
            dueItems(x, 0, 0, 1, 2, 3, 4, 4);
        });
    }

    private static void copyNothing() {
        sentence(32, "(of n 0, too: i or j above the size)", () -> {
            DogJudge x = items(items(new DogJudge(), 0, 2, 1, 2, 3), 1, 2, 7, 8);
            due(1, x.copy(0, 3, 1, 2, 0));
            due(1, x.copy(0, 0, 1, 0, 0));
            due(INDEX, x.copy(0, 4, 1, 0, 0));
            due(INDEX, x.copy(0, 0, 1, 3, 0));
            due(INDEX, x.copy(0, -1, 1, 0, 0));
            due(INDEX, x.copy(0, 0, 1, -1, 0));
            due(INDEX, x.copy(0, MOST, 1, 0, 0));
            due(INDEX, x.copy(0, 0, 1, LEAST, 0));
            x.sheet(2, 2, 0);
            due(1, x.copy(2, 0, 0, 3, 0));
            due(INDEX, x.copy(2, 1, 0, 0, 0));
            due(INDEX, x.copy(0, 0, 2, 0, 1));
            due(1, x.copy(2, 0, 2, 0, 0));
            dueItems(x, 0, 2, 1, 2, 3);
            dueItems(x, 1, 2, 7, 8);
        });
        sentence(32, "of 0 to 48 items", () -> {
            DogJudge x = new DogJudge();
            x.sheet(0, 2, 48);
            x.sheet(1, 2, 48);
            for (int i = 0; i < 48; i++) x.put(0, 2, i, i + 1);
            due(1, x.copy(0, 0, 1, 0, 48));
            for (int i = 0; i < 48; i++) due(i + 1, x.get(1, 2, i));
            due(1, x.copy(0, 0, 1, 47, 1));
            due(1, x.get(1, 2, 47));
            due(INDEX, x.copy(0, 0, 1, 48, 1));
            due(INDEX, x.copy(0, 0, 1, 0, 49));
        });
    }

    private static void write() {
        sentence(33, "BAD; NULL.", () -> {
            DogJudge x = new DogJudge();
            x.sheet(0, 0, 1);
            for (int wrong : new int[] {-1, 2, LEAST, MOST}) due(BAD, x.write(wrong, 0));
            for (int wrong : new int[] {-1, 4, LEAST, MOST}) due(BAD, x.write(0, wrong));
            due(BAD, x.write(2, 1));
            due(0, x.count(8));
            due(0, x.get(0, 0, 0));
            due(NULL, x.write(0, 1));
            due(NULL, x.write(1, 3));
            due(1, x.count(8));
        });
        sentence(33, "from item 0 on, as many as there are items, 30 at most: how many.", () -> {
            DogJudge x = come(heirs("010;020"), 0, 0, COAT, 29, 1, COAT);
            for (int size : new int[] {0, 1, 29, 30, 31, 48}) {
                x.sheet(0, 0, size);
                for (int i = 0; i < size; i++) x.put(0, 0, i, 7);
                int many = Math.min(size, 30);
                due(many, x.write(0, 0));
                for (int i = 0; i < size; i += 14) due(i < 29 ? 0 : 7, x.get(0, 0, i));
                if (size >= 30) due(1, x.get(0, 0, 29));
                if (size > 30) due(7, x.get(0, 0, 30));
                if (size > 30) due(7, x.get(0, 0, size - 1));
            }
        });
        sentence(33, "FOUND by a DOG behind DAYS 0 on", () -> {
            DogJudge x = come(heirs("010;001"), 1, 0, COAT, 2, 1, STICK);
            x.taste(1, COAT, 0);
            x.sheet(0, 2, 3);
            due(3, x.write(0, 0));
            dueItems(x, 0, 2, NONE, 0, 0);
            due(3, x.write(1, 0));
            dueItems(x, 0, 2, NONE, NONE, 1);
            // With a fault there is nobody to be found.
            x.undo();
            due(3, x.write(0, 0));
            dueItems(x, 0, 2, NONE, NONE, NONE);
        });
    }

    private static void count() {
        sentence(34, "0 HEIRS, 1 bytes, 2 VISITS, 3 those that count, 4 SEEN, 5 HABIT, 6 HUNGER, 7 SLEEPS", () -> {
            DogJudge x = fullOfVisits(heirs(SIX_HEIRS));
            for (int i = 0; i < 8; i++) x.seen(i, 0);
            set(x, HABIT, 9, HUNGER, 8, SLEEPS, ALL_DAYS, FADES, 7, NIGHT, 6);
            int[] full = {6, 23, 24, 0, 8, 9, 8, ALL_DAYS, 0};
            for (int what = 0; what < 9; what++) due(full[what], x.count(what));
            set(x, HABIT, 0, HUNGER, 0, SLEEPS, ALL_DAYS >> 1);
            due(24, x.count(3));
            x.wipe();
            x.forget();
            int[] left = {0, 0, 24, 0, 0, 0, 0, ALL_DAYS >> 1, 0};
            for (int what = 0; what < 9; what++) due(left[what], x.count(what));
            for (int wrong : new int[] {-1, 9, LEAST, MOST}) due(BAD, x.count(wrong));
        });
        sentence(34, "What is brought by who is not there, or on a DAY that it SLEEPS, does not count.", () -> {
            DogJudge x = come(heirs("111;111"), 0, 0, COAT, 0, 1, COAT, 0, 2, COAT, 29, 1, COAT);
            due(3, x.count(3));
            x.set(SLEEPS, 1);
            due(1, x.count(3));
            x.set(SLEEPS, 1 << 29);
            due(2, x.count(3));
            x.undo();
            due(0, x.count(3));
            for (int i = 0; i < 3; i++) x.undo();
            due(1, x.count(3));
            due(4, x.count(2));
        });
        sentence(34, "8 the number of the latest FINDING (0 before any). BAD.", () -> {
            DogJudge x = items(items(new DogJudge(), 0, 0, 1), 1, 1, 1);
            due(0, x.count(8));
            x.read(3);
            due(1, x.count(8));
            x.put(0, 0, 1, 0);
            due(2, x.count(8));
            x.put(0, 1, 0, 0);
            due(3, x.count(8));
            x.copy(0, 0, 1, 0, 1);
            due(4, x.count(8));
            x.sheet(0, 0, -1);
            due(5, x.count(8));
            // Neither what goes well nor what is BAD, NOT or FULL is a finding.
            x.put(0, 0, 0, 5);
            x.sheet(0, 0, 49);
            x.undo();
            x.back();
            x.share(0, 0, 0);
            x.count(9);
            fullOfVisits(x).visit(0, 0, 0);
            due(5, x.count(8));
        });
    }

    private static void digest() {
        sentence(35, "h is 17; h becomes 31 h and each of", () -> {
            // Without heirs: counts, fault, found 8 times, quarrel twice, dissent, changes, replies, and so on.
            long[] all = {0, 0, 0, 0, 0, 1, 3, 0, -1, -1, -1, -1, -1, -1, -1, -1, -1, -1, -1, 0, 0, -2, -2, 1000, 0, -2, 64, -2, -1};
            long h = 17;
            for (long one : all) h = 31 * h + one;
            due(h, new DogJudge().digest());
        });
        sentence(35, "share(5, it), above, below (as it is told)", () -> {
            // One heir of no liking: its share is NOT, both above and below, as longs.
            long[] all = {1, 3, 0, 0, 0, 1, 3, 0, -1, 0, 0, 0, 0, 0, Long.MIN_VALUE + 3, Long.MIN_VALUE + 3, -1, -1, 0, 1, 0,
                -1, -1, -1, -1, -1, -1, -1, -1, -1, -1, 0, 0, -2, -2, 1000, 0, 0, 65, 0, -1};
            long h = 17;
            for (long one : all) h = 31 * h + one;
            due(h, heirs("000").digest());
        });
        sentence(35, "replies(0, 1, 3, 0 and 1) (as it is told), tastes() 0, 1, tells(3, 0) (as it is told)", () -> {
            // With a fault there are no heirs, but bytes; what there are no heirs for is BAD.
            long[] all = {0, 4, 0, 0, 1, 1, 3, 0, 4, -1, -1, -1, -1, -1, -1, -1, -1, -1, -1, 0, 0, -2, -2, 0, -1, -2, 0, -2, -1};
            DogJudge x = heirs("000;");
            x.seen(0, 0);
            long h = 17;
            for (long one : all) h = 31 * h + one;
            due(h, x.digest());
        });
        sentence(35, "of DAYS 0, 1, 9, 29 found(0, it), found(1, it)", () -> {
            // Found first on one of these days it tells, on the day ahead of it or behind it as well.
            for (int day = 0; day < 30; day++) {
                DogJudge x = set(come(heirs("000;001"), day, 1, STICK), FADES, 9);
                x.taste(1, STICK, 0);
                due(digestByHand(x), x.digest());
                x.taste(1, STICK, 1);
                due(digestByHand(x), x.digest());
            }
        });
        sentence(35, "(of each thing all that is told of it, then of the next one)", () -> {
            DogJudge x = come(heirs("123;456;050"), 0, 0, SAUSAGE, 3, 1, COAT, 5, 2, COAT, 5, 0, COAT, 9, 0, COAT);
            due(digestByHand(x), x.digest());
            DogJudge full = fullOfVisits(come(heirs(SIX_HEIRS), 0, 5, COAT, 1, 4, COAT, 2, 3, STICK, 4, 0, SAUSAGE));
            full.seen(29, 0);
            due(digestByHand(full), full.digest());
            // A quarrel of day 2 with day 0; then days on which it is best to be heard that differ by chance and day.
            DogJudge y = come(heirs("010;030"), 0, 0, COAT, 1, 1, COAT, 2, 0, COAT);
            due(digestByHand(y), y.digest());
            DogJudge more = come(heirs("479;981"), 3, 1, 0, 3, 0, 1, 2, 0, 2, 3, 1, 0, 1, 0, 1, 4, 0, 1, 3, 1, 1, 3, 0, 1);
            set(more, HABIT, 2, FADES, 2);
            due(digestByHand(more), more.digest());
            DogJudge less = come(heirs("202;771"), 1, 1, 2, 2, 0, 0, 4, 1, 1, 0, 0, 0, 2, 1, 0, 3, 0, 0, 0, 0, 2);
            set(less, HABIT, 0, FADES, 3);
            due(digestByHand(less), less.digest());
        });
        sentence(35, "as longs that wrap", () -> {
            // Of 29 numbers and more the powers of 31 are far above the greatest long.
            DogJudge x = new DogJudge();
            due(8501129970606130731L, x.digest());
            due(8501129970606130731L, x.digest());
            due(0, x.count(8));
        });
    }

    private static long digestByHand(DogJudge x) {
        long h = 17;
        for (int what = 0; what < 8; what++) h = 31 * h + x.count(what);
        h = 31 * h + x.fault();
        for (int it = 0; it < x.count(0); it++) {
            for (int thing = 0; thing < 3; thing++) h = 31 * h + x.good(it, thing);
            long[] ofHeir = {x.liking(0, 9, it), x.liking(1, 29, it), x.share(5, it, 0), x.share(5, it, 1),
                x.suit(it, 4, NONE), x.suit(it, 4, 0), x.chance(4, it, 5, 0), x.chance(4, it, 5, 1), x.weeks(7, 9, it)};
            for (long one : ofHeir) h = 31 * h + one;
        }
        for (int day : new int[] {0, 1, 9, 29}) h = 31 * (31 * h + x.found(0, day)) + x.found(1, day);
        long[] rest = {x.quarrel(0), x.quarrel(1), x.dissent(), x.changes(), x.replies(0, 1, 3, 0), x.replies(0, 1, 3, 1),
            x.tastes(0), x.tastes(1), x.tells(3, 0), x.trainer(), x.heard(4, 0, 0, 4), x.weeks(7, 9, NONE)};
        for (long one : rest) h = 31 * h + one;
        return h;
    }
}
