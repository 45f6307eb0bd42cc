/**
 * Long runs of calls, drawn by a fixed row of lots, each answered by DogJudge and by PlainJudge.
 * The runs are of several tempers, so that rare things (likes, ties, sleep, fading, contradictions)
 * come often in some of them.
 */
public final class PlainRunsTest {
    private static final int CALLS = 512;
    private static int wrong = 0;

    private final DogJudge judge = new DogJudge();
    private final PlainJudge plain = new PlainJudge();
    private final StringBuilder told = new StringBuilder();
    private final int run;
    private final Lots lots;

    private PlainRunsTest(int run) {
        this.run = run;
        this.lots = new Lots(run);
    }

    public static void main(String[] args) {
        int runs = args.length > 0 ? Integer.parseInt(args[0]) : 60;
        int from = args.length > 1 ? Integer.parseInt(args[1]) : 0;
        for (int run = from; run < from + runs && wrong < 5; run++) new PlainRunsTest(run).go();
        System.out.println(wrong == 0 ? runs + " plain runs agree" : wrong + " answers are not as due");
        if (wrong != 0) System.exit(1);
    }

    private int upTo(int most) {
        return lots.upTo(most);
    }

    /** A number of least to most, now and then one outside. */
    private int about(int least, int most) {
        int way = upTo(39);
        if (way == 0) return least - 1;
        if (way == 1) return most + 1;
        if (way == 2) return new int[] {Integer.MIN_VALUE, Integer.MAX_VALUE, -1, 1 << 20}[upTo(3)];
        return least + upTo(most - least);
    }

    private void due(String call, long got, long want) {
        told.append(call).append(" = ").append(got).append('\n');
        if (got == want) return;
        wrong++;
        System.out.println("run " + run + ": due is " + want + " in the last of\n" + told);
    }

    private void go() {
        begin();
        for (int calls = told.toString().split("\n").length; calls < CALLS && wrong == 0; calls++) {
            int kind = upTo(99);
            if (kind < 30) change();
            else if (kind < 50) ask();
            else if (kind < 70) search();
            else if (kind < 98 || run % 3 != 0) handleSheets();
            else due("digest()", judge.digest(), plain.digest());
        }
        due("digest()", judge.digest(), plain.digest());
        for (int what = 0; what <= 8; what++) due("count(" + what + ")", judge.count(what), plain.count(what));
    }

    private void begin() {
        int heirs = upTo(6);
        for (int i = 0; i < 4 * heirs - 1; i++) type(i % 4 == 3 ? ';' : '0' + upTo(run % 2 == 0 ? 3 : 9));
        int visits = upTo(18);
        for (int i = 0; i < visits; i++) visit();
        if (run % 4 == 1) set(2, upTo(4));
        if (run % 4 == 2) set(3, upTo(1023));
        if (run % 4 == 3) set(0, upTo(9));
        if (run % 5 == 0) set(1, upTo(9));
        for (int i = 0; i < 6; i++) if (upTo(1) == 0) taste(i / 3, i % 3, upTo(run % 2 == 0 ? 2 : 9));
    }

    private void type(int b) {
        due("type(" + b + ")", judge.type(b), plain.type(b));
    }

    private void set(int what, int v) {
        due("set(" + what + ", " + v + ")", judge.set(what, v), plain.set(what, v));
    }

    private void taste(int dog, int thing, int v) {
        due("taste(" + dog + ", " + thing + ", " + v + ")", judge.taste(dog, thing, v), plain.taste(dog, thing, v));
    }

    private void visit() {
        int day = upTo(9) == 0 ? about(0, 29) : about(0, run % 3 == 0 ? 4 : 9);
        int heir = about(0, Math.min(5, plain.count(0)));
        int thing = about(0, 2);
        due("visit(" + day + ", " + heir + ", " + thing + ")", judge.visit(day, heir, thing), plain.visit(day, heir, thing));
    }

    private void seen() {
        int day = about(0, upTo(3) == 0 ? 29 : 8);
        int heir = upTo(2) == 0 ? about(-1, 5) : plain.found(upTo(3) == 0 ? 1 : 0, day);
        due("seen(" + day + ", " + heir + ")", judge.seen(day, heir), plain.seen(day, heir));
    }

    private void change() {
        switch (upTo(13)) {
            case 0: case 1: case 2: case 3: visit(); break;
            case 4: due("back()", judge.back(), plain.back()); break;
            case 5: taste(about(0, 1), about(0, 2), about(0, 9)); break;
            case 6: case 7: {
                int what = about(0, 4);
                set(what, what == 3 ? (upTo(1) == 0 ? 0 : about(0, upTo(1) == 0 ? 1023 : 1073741823)) : about(0, 9));
                break;
            }
            case 8: case 9: seen(); break;
            case 10: if (upTo(1) == 0) due("forget()", judge.forget(), plain.forget()); break;
            case 11: type(upTo(3) == 0 ? about(0, 255) : plain.count(1) % 4 == 3 ? ';' : '0' + upTo(9)); break;
            case 12: due("undo()", judge.undo(), plain.undo()); break;
            default: {
                if (upTo(9) != 0) break;
                due("wipe()", judge.wipe(), plain.wipe());
                for (int i = 0; i < 11; i++) type(i % 4 == 3 ? ';' : '0' + upTo(9));
            }
        }
    }

    private void ask() {
        int day = about(0, 29), heir = about(0, Math.max(0, plain.count(0) - 1)), what = about(0, 1), dog = about(0, 1);
        String rest = "(" + day + ", " + heir;
        switch (upTo(9)) {
            case 0: due("fault()", judge.fault(), plain.fault()); break;
            case 1: due("good(" + heir + ", " + (what + 1) + ")", judge.good(heir, what + 1), plain.good(heir, what + 1)); break;
            case 2: due("liking(" + dog + ", " + day + ", " + heir + ")", judge.liking(dog, day, heir), plain.liking(dog, day, heir)); break;
            case 3: due("found(" + dog + ", " + day + ")", judge.found(dog, day), plain.found(dog, day)); break;
            case 4: due("share" + rest + ", " + what + ")", judge.share(day, heir, what), plain.share(day, heir, what)); break;
            case 5: due("quarrel(" + what + ")", judge.quarrel(what), plain.quarrel(what)); break;
            case 6: due("dissent()", judge.dissent(), plain.dissent()); break;
            case 7: due("changes()", judge.changes(), plain.changes()); break;
            case 8: due("trainer()", judge.trainer(), plain.trainer()); break;
            default: {
                int of = about(0, 8);
                due("count(" + of + ")", judge.count(of), plain.count(of));
            }
        }
    }

    private void search() {
        int many = Math.max(0, plain.count(0) - 1);
        int a = about(0, many), b = about(0, many), what = about(0, 1), thing = about(0, 2);
        int c = about(0, 16), day = about(0, upTo(9) == 0 ? 9 : 4);
        switch (upTo(10)) {
            case 0: case 1: {
                int i = about(-1, 2);
                due("suit(" + a + ", " + day + ", " + i + ")", judge.suit(a, day, i), plain.suit(a, day, i));
                break;
            }
            case 2: case 3: case 4: {
                int n = about(1, 4);
                due("replies(" + a + ", " + b + ", " + n + ", " + what + ")", judge.replies(a, b, n, what), plain.replies(a, b, n, what));
                break;
            }
            case 5: if (run % 2 == 0) due("tastes(" + what + ")", judge.tastes(what), plain.tastes(what)); break;
            case 6: if (run % 2 == 0) due("tells(" + day + ", " + a + ")", judge.tells(day, a), plain.tells(day, a)); break;
            case 7: case 8:
                due("chance(" + c + ", " + a + ", " + day + ", " + what + ")", judge.chance(c, a, day, what), plain.chance(c, a, day, what));
                break;
            case 9:
                due("heard(" + c + ", " + a + ", " + thing + ", " + day + ")", judge.heard(c, a, thing, day), plain.heard(c, a, thing, day));
                break;
            default: {
                int seed = upTo(1) == 0 ? upTo(100) : lots.anyInt(), n = about(1, 30), heir = about(-1, many);
                due("weeks(" + seed + ", " + n + ", " + heir + ")", judge.weeks(seed, n, heir), plain.weeks(seed, n, heir));
            }
        }
    }

    private void handleSheets() {
        int s = about(0, 3), form = about(0, 2), i = about(0, 11), t = about(0, 3), j = about(0, 11), n = about(0, 12);
        switch (upTo(11)) {
            case 0: case 1: {
                int size = upTo(2) == 0 ? about(0, 48) : n;
                due("sheet(" + s + ", " + form + ", " + size + ")", judge.sheet(s, form, size), plain.sheet(s, form, size));
                break;
            }
            case 2: if (upTo(2) == 0) due("lose(" + s + ")", judge.lose(s), plain.lose(s)); break;
            case 3: case 4: case 5: {
                int v = upTo(3) == 0 ? lots.anyInt() : upTo(5);
                due("put(" + s + ", " + form + ", " + i + ", " + v + ")", judge.put(s, form, i, v), plain.put(s, form, i, v));
                break;
            }
            case 6: case 7: due("get(" + s + ", " + form + ", " + i + ")", judge.get(s, form, i), plain.get(s, form, i)); break;
            case 8:
                due("copy(" + s + ", " + i + ", " + t + ", " + j + ", " + n + ")", judge.copy(s, i, t, j, n), plain.copy(s, i, t, j, n));
                break;
            case 9: due("write(" + (form & 1) + ", " + s + ")", judge.write(form & 1, s), plain.write(form & 1, s)); break;
            case 10: due("read(" + s + ")", judge.read(s), plain.read(s)); break;
            default: due("count(8)", judge.count(8), plain.count(8));
        }
    }
}
