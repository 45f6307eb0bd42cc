import java.util.ArrayList;
import java.util.List;

/**
 * The sentences on refusals, promise by promise: that what is refused changes nothing (findings but
 * count() 8). Of two like objects one is asked what is refused; then all that can be told of both is
 * the same. What only asks changes nothing, either.
 */
public final class RefusalsSentencesTest extends Sentences {
    private static final String WORDS = "They change nothing (FINDINGS but count() 8).";
    private static final long LONG_BAD = -9223372036854775806L, LONG_NOT = -9223372036854775805L;
    private static final int[] OUTSIDE = {-2, 99, LEAST, MOST};

    /** A call that is refused, or that only asks. */
    private interface Call {
        long on(DogJudge x);
    }

    /** What an object was told ahead of such a call. */
    private interface State {
        DogJudge make();
    }

    public static void main(String[] args) {
        ofHeirs();
        ofVisits();
        ofFindings();
        ofSearches();
        ofSeen();
        ofChances();
        ofSheets();
        ofItems();
        ofCopies();
        whatOnlyAsks();
        end();
    }

    // ---- what is told of two like objects

    private static DogJudge empty() {
        return new DogJudge();
    }

    private static DogJudge some() {
        return rich("123;456;050");
    }

    private static DogJudge nobodyCame() {
        DogJudge x = some();
        while (x.count(2) > 0) x.back();
        return x;
    }

    private static DogJudge full() {
        DogJudge x = fullOfVisits(rich(SIX_HEIRS));
        for (int i = x.count(4); i < 8; i++) x.seen(i, 0);
        return x;
    }

    /** Everything is told here; sheet 3 is lost. */
    private static DogJudge rich(String text) {
        DogJudge x = come(heirs(text), 0, 0, SAUSAGE, 2, 1, STICK, 2, 0, COAT, 5, 2, COAT, 29, 1, COAT, 7, 5, STICK);
        for (int i = 0; i < 6; i++) x.taste(i / 3, i % 3, i + 2);
        set(x, HABIT, 2, HUNGER, 4, FADES, 1, SLEEPS, 1 << 5 | 1 << 28, NIGHT, 3);
        x.seen(0, 0);
        x.seen(3, 0);
        items(x, 0, 0, 1, 2, 3);
        items(x, 1, 1, 4, 5);
        return items(x, 2, 2, 6, 7, 8, 9);
    }

    /** All that can be told of it but count() 8; it is of no use afterwards. */
    private static List<Long> allOf(DogJudge x) {
        List<Long> all = new ArrayList<>();
        for (int what = 0; what < 8; what++) all.add((long) x.count(what));
        all.add(x.digest());
        for (int i = 0; i < 60; i++) all.add((long) x.found(i / 30, i % 30));
        for (int i = 0; i < 60; i++) all.add((long) x.liking(i / 30, new int[] {0, 2, 5, 7, 29}[i % 5], i / 5 % 6));
        for (int i = 0; i < 60; i++) all.add((long) x.get(i / 15, i / 5 % 3, i % 5));
        for (int i = 0; i < 6; i++) all.add((long) x.taste(i / 3, i % 3, 1));
        for (int what = 0; what < 5; what++) all.add((long) x.set(what, 0));
        for (int s = 0; s < 4; s++) all.add((long) x.lose(s));
        all.add((long) x.tastes(0));
        all.add((long) x.forget());
        for (int i = 0; i < 25; i++) {
            all.add((long) x.back());
            all.add((long) x.found(0, 29));
        }
        for (int i = 0; i < 24; i++) {
            all.add((long) x.undo());
            all.add((long) x.fault());
        }
        return all;
    }

    private static void dueUntouched(State state, Call call) {
        DogJudge called = state.make();
        DogJudge like = state.make();
        call.on(called);
        List<Long> want = allOf(like);
        List<Long> got = allOf(called);
        for (int i = 0; i < want.size(); i++) due(want.get(i), got.get(i));
    }

    /** The call is refused so, and all stays but the number of the latest finding where it is one. */
    private static void refused(State state, long answer, Call call) {
        DogJudge x = state.make();
        // Another finding is ahead of it.
        int ahead = answer == SIZE ? 1 : 5;
        if (ahead == 5) x.sheet(0, 0, -1);
        else x.lose(3);
        due(answer == SIZE ? 1 : 5, x.count(8));
        due(answer, call.on(x));
        due(answer <= NULL && answer >= SIZE ? -10 - answer : ahead, x.count(8));
        dueUntouched(state, call);
    }

    /** As above, for get(): it answers the least int, and count() 8 tells the finding. */
    private static void refusedGet(int finding, Call call) {
        DogJudge x = some();
        x.sheet(0, 0, -1);
        due(LEAST, call.on(x));
        due(finding == 0 ? 5 : finding, x.count(8));
        dueUntouched(RefusalsSentencesTest::some, call);
    }

    // ---- promise by promise

    private static void ofHeirs() {
        sentence(2, WORDS, () -> {
            for (int b : new int[] {-1, 256, LEAST, MOST}) refused(RefusalsSentencesTest::some, BAD, x -> x.type(b));
            refused(RefusalsSentencesTest::full, FULL, x -> x.type('1'));
            refused(RefusalsSentencesTest::full, BAD, x -> x.type(256));
        });
        sentence(4, WORDS, () -> {
            refused(RefusalsSentencesTest::empty, NOT, DogJudge::undo);
            refused(() -> rich(""), NOT, DogJudge::undo);
        });
        sentence(6, WORDS, () -> {
            for (int wrong : OUTSIDE) {
                refused(RefusalsSentencesTest::some, BAD, x -> x.good(wrong, 0));
                refused(RefusalsSentencesTest::some, BAD, x -> x.good(0, wrong));
            }
            refused(RefusalsSentencesTest::empty, BAD, x -> x.good(0, 0));
        });
    }

    private static void ofVisits() {
        sentence(7, WORDS, () -> {
            for (int wrong : OUTSIDE) {
                refused(RefusalsSentencesTest::some, BAD, x -> x.taste(wrong, 0, 9));
                refused(RefusalsSentencesTest::some, BAD, x -> x.taste(0, wrong, 9));
                refused(RefusalsSentencesTest::some, BAD, x -> x.taste(0, 0, wrong));
            }
        });
        sentence(8, WORDS, () -> {
            for (int wrong : OUTSIDE) refused(RefusalsSentencesTest::some, BAD, x -> x.set(wrong, 5));
            for (int way = 0; way < 5; way++) {
                int what = way;
                for (int wrong : new int[] {-1, LEAST, MOST}) {
                    refused(RefusalsSentencesTest::some, BAD, x -> x.set(what, wrong));
                }
                refused(RefusalsSentencesTest::some, BAD, x -> x.set(what, what == SLEEPS ? ALL_DAYS + 1 : 10));
            }
        });
        sentence(9, WORDS, () -> {
            for (int wrong : OUTSIDE) {
                refused(RefusalsSentencesTest::some, BAD, x -> x.visit(wrong, 0, 0));
                refused(RefusalsSentencesTest::some, BAD, x -> x.visit(0, wrong, 0));
                refused(RefusalsSentencesTest::some, BAD, x -> x.visit(0, 0, wrong));
            }
            refused(RefusalsSentencesTest::full, FULL, x -> x.visit(0, 0, 0));
            refused(RefusalsSentencesTest::full, BAD, x -> x.visit(0, 0, 3));
        });
        sentence(10, WORDS, () -> {
            refused(RefusalsSentencesTest::empty, NOT, DogJudge::back);
            refused(RefusalsSentencesTest::nobodyCame, NOT, DogJudge::back);
        });
        sentence(11, WORDS, () -> {
            for (int wrong : OUTSIDE) refused(RefusalsSentencesTest::some, BAD, x -> x.read(wrong));
            refused(RefusalsSentencesTest::some, NULL, x -> x.read(3));
            refused(RefusalsSentencesTest::full, 0, x -> x.read(0));
        });
    }

    private static void ofFindings() {
        sentence(12, WORDS, () -> {
            for (int wrong : OUTSIDE) {
                refused(RefusalsSentencesTest::some, BAD, x -> x.liking(wrong, 0, 0));
                refused(RefusalsSentencesTest::some, BAD, x -> x.liking(0, wrong, 0));
                refused(RefusalsSentencesTest::some, BAD, x -> x.liking(0, 0, wrong));
            }
        });
        sentence(13, WORDS, () -> {
            for (int wrong : OUTSIDE) {
                refused(RefusalsSentencesTest::some, BAD, x -> x.found(wrong, 0));
                refused(RefusalsSentencesTest::some, BAD, x -> x.found(0, wrong));
            }
        });
        sentence(14, WORDS, () -> {
            for (int wrong : OUTSIDE) {
                refused(RefusalsSentencesTest::some, LONG_BAD, x -> x.share(wrong, 0, 0));
                refused(RefusalsSentencesTest::some, LONG_BAD, x -> x.share(0, wrong, 0));
                refused(RefusalsSentencesTest::some, LONG_BAD, x -> x.share(0, 0, wrong));
            }
            refused(() -> heirs("000"), LONG_NOT, x -> x.share(29, 0, 1));
            refused(() -> rich("000;000;000"), LONG_NOT, x -> x.share(29, 0, 1));
        });
        sentence(15, WORDS, () -> {
            for (int wrong : OUTSIDE) refused(RefusalsSentencesTest::some, BAD, x -> x.quarrel(wrong));
        });
    }

    private static void ofSearches() {
        sentence(18, WORDS, () -> {
            for (int wrong : OUTSIDE) {
                refused(RefusalsSentencesTest::some, BAD, x -> x.suit(wrong, 0, 0));
                refused(RefusalsSentencesTest::some, BAD, x -> x.suit(0, wrong, 0));
                refused(RefusalsSentencesTest::some, BAD, x -> x.suit(0, 0, wrong));
            }
        });
        sentence(19, WORDS, () -> {
            for (int wrong : OUTSIDE) {
                refused(RefusalsSentencesTest::some, BAD, x -> x.replies(wrong, 0, 1, 0));
                refused(RefusalsSentencesTest::some, BAD, x -> x.replies(0, wrong, 1, 0));
                refused(RefusalsSentencesTest::some, BAD, x -> x.replies(0, 1, wrong, 0));
                refused(RefusalsSentencesTest::some, BAD, x -> x.replies(0, 1, 1, wrong));
            }
            refused(RefusalsSentencesTest::some, BAD, x -> x.replies(1, 1, 1, 0));
        });
    }

    private static void ofSeen() {
        sentence(20, WORDS, () -> {
            for (int wrong : OUTSIDE) {
                refused(RefusalsSentencesTest::some, BAD, x -> x.seen(wrong, 0));
                refused(RefusalsSentencesTest::some, BAD, x -> x.seen(0, wrong));
            }
            refused(RefusalsSentencesTest::full, FULL, x -> x.seen(1, 1));
            refused(RefusalsSentencesTest::full, BAD, x -> x.seen(1, 6));
        });
        sentence(22, WORDS, () -> {
            for (int wrong : OUTSIDE) refused(RefusalsSentencesTest::some, BAD, x -> x.tastes(wrong));
        });
        sentence(23, WORDS, () -> {
            for (int wrong : OUTSIDE) {
                refused(RefusalsSentencesTest::some, BAD, x -> x.tells(wrong, 0));
                refused(RefusalsSentencesTest::some, BAD, x -> x.tells(0, wrong));
            }
        });
    }

    private static void ofChances() {
        sentence(25, WORDS, () -> {
            for (int wrong : OUTSIDE) {
                refused(RefusalsSentencesTest::some, LONG_BAD, x -> x.chance(wrong, 0, 0, 0));
                refused(RefusalsSentencesTest::some, LONG_BAD, x -> x.chance(0, wrong, 0, 0));
                refused(RefusalsSentencesTest::some, LONG_BAD, x -> x.chance(0, 0, wrong, 0));
                refused(RefusalsSentencesTest::some, LONG_BAD, x -> x.chance(0, 0, 0, wrong));
            }
        });
        sentence(26, WORDS, () -> {
            for (int wrong : OUTSIDE) {
                refused(RefusalsSentencesTest::some, BAD, x -> x.heard(wrong, 0, 0, 0));
                refused(RefusalsSentencesTest::some, BAD, x -> x.heard(0, wrong, 0, 0));
                refused(RefusalsSentencesTest::some, BAD, x -> x.heard(0, 0, wrong, 0));
                refused(RefusalsSentencesTest::some, BAD, x -> x.heard(0, 0, 0, wrong));
            }
        });
        sentence(27, WORDS, () -> {
            for (int wrong : OUTSIDE) {
                refused(RefusalsSentencesTest::some, BAD, x -> x.weeks(7, wrong, 0));
                refused(RefusalsSentencesTest::some, BAD, x -> x.weeks(7, 9, wrong));
            }
        });
    }

    private static void ofSheets() {
        sentence(28, WORDS, () -> {
            for (int wrong : OUTSIDE) {
                refused(RefusalsSentencesTest::some, BAD, x -> x.sheet(wrong, 0, 1));
                refused(RefusalsSentencesTest::some, BAD, x -> x.sheet(0, wrong, 1));
            }
            refused(RefusalsSentencesTest::some, BAD, x -> x.sheet(0, 1, 49));
            refused(RefusalsSentencesTest::some, BAD, x -> x.sheet(0, 3, -1));
            refused(RefusalsSentencesTest::some, SIZE, x -> x.sheet(0, 1, -1));
            refused(RefusalsSentencesTest::some, SIZE, x -> x.sheet(3, 1, LEAST));
        });
        sentence(29, WORDS, () -> {
            for (int wrong : OUTSIDE) refused(RefusalsSentencesTest::some, BAD, x -> x.lose(wrong));
            refused(RefusalsSentencesTest::some, NULL, x -> x.lose(3));
        });
        sentence(33, WORDS, () -> {
            for (int wrong : OUTSIDE) {
                refused(RefusalsSentencesTest::some, BAD, x -> x.write(wrong, 0));
                refused(RefusalsSentencesTest::some, BAD, x -> x.write(0, wrong));
            }
            refused(RefusalsSentencesTest::some, NULL, x -> x.write(0, 3));
        });
        sentence(34, WORDS, () -> {
            for (int wrong : OUTSIDE) refused(RefusalsSentencesTest::some, BAD, x -> x.count(wrong));
        });
    }

    private static void ofItems() {
        sentence(30, WORDS, () -> {
            for (int wrong : OUTSIDE) {
                refused(RefusalsSentencesTest::some, BAD, x -> x.put(wrong, 0, 0, 50));
                refused(RefusalsSentencesTest::some, BAD, x -> x.put(0, wrong, 0, 50));
                refused(RefusalsSentencesTest::some, INDEX, x -> x.put(0, 0, wrong, 50));
            }
            refused(RefusalsSentencesTest::some, NULL, x -> x.put(3, 0, 0, 50));
            refused(RefusalsSentencesTest::some, CAST, x -> x.put(0, 1, 0, 50));
            refused(RefusalsSentencesTest::some, CAST, x -> x.put(2, 0, 0, 50));
        });
        sentence(31, WORDS, () -> {
            for (int wrong : OUTSIDE) {
                refusedGet(0, x -> x.get(wrong, 0, 0));
                refusedGet(0, x -> x.get(0, wrong, 0));
                refusedGet(2, x -> x.get(0, 0, wrong));
            }
            refusedGet(1, x -> x.get(3, 0, 0));
            refusedGet(3, x -> x.get(0, 1, 0));
        });
    }

    private static void ofCopies() {
        sentence(32, WORDS, () -> {
            for (int wrong : OUTSIDE) {
                refused(RefusalsSentencesTest::some, BAD, x -> x.copy(wrong, 0, 0, 1, 1));
                refused(RefusalsSentencesTest::some, BAD, x -> x.copy(0, 0, wrong, 1, 1));
                refused(RefusalsSentencesTest::some, INDEX, x -> x.copy(0, wrong, 0, 1, 1));
                refused(RefusalsSentencesTest::some, INDEX, x -> x.copy(0, 0, 0, wrong, 1));
                refused(RefusalsSentencesTest::some, INDEX, x -> x.copy(0, 0, 0, 1, wrong));
            }
            refused(RefusalsSentencesTest::some, NULL, x -> x.copy(0, 0, 3, 0, 1));
            refused(RefusalsSentencesTest::some, NULL, x -> x.copy(3, 0, 0, 0, 1));
            refused(RefusalsSentencesTest::some, STORE, x -> x.copy(0, 0, 1, 0, 1));
            // Two of three items would be there: none is copied.
            refused(RefusalsSentencesTest::some, INDEX, x -> x.copy(0, 0, 0, 1, 3));
        });
    }

    private static void whatOnlyAsks() {
        Call[] asks = {DogJudge::fault, x -> x.good(0, 0), x -> x.liking(1, 29, 0), x -> x.found(1, 29),
            x -> x.share(29, 0, 1), x -> x.quarrel(1), DogJudge::dissent, DogJudge::changes, x -> x.suit(2, 9, NONE),
            x -> x.replies(1, 0, 4, 1), x -> x.tastes(1), x -> x.tells(29, 1), DogJudge::trainer,
            x -> x.chance(3, 1, 9, 0), x -> x.heard(3, 1, 2, 9), x -> x.weeks(MOST, 30, NONE), x -> x.get(2, 2, 3),
            x -> x.count(8), DogJudge::digest};
        int[] promises = {5, 6, 12, 13, 14, 15, 16, 17, 18, 19, 22, 23, 24, 25, 26, 27, 31, 34, 35};
        for (int i = 0; i < asks.length; i++) {
            Call ask = asks[i];
            sentence(promises[i], "Nothing is promised beyond the answers and state changes described above", () -> {
                dueUntouched(RefusalsSentencesTest::some, ask);
                dueUntouched(RefusalsSentencesTest::full, ask);
                DogJudge x = some();
                x.sheet(0, 0, -1);
                ask.on(x);
                due(5, x.count(8));
            });
        }
    }
}
