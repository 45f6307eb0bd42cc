import java.math.BigInteger;
import java.util.ArrayList;
import java.util.Arrays;
import java.util.List;

/**
 * The document written a second time, in the plainest way: each answer is worked out anew from lists
 * of visits, nothing is kept between calls but what was told, and searches try everything.
 */
final class PlainJudge {
    static final int NONE = -1, BAD = -2, NOT = -3, FULL = -4;

    private String text = "";
    private final List<int[]> visits = new ArrayList<>();
    private final List<int[]> seen = new ArrayList<>();
    private final int[][] tastes = {{1, 1, 1}, {1, 1, 1}};
    private int habit = 1, hunger = 3, fades = 0, sleeps = 0, night = 2;
    private final int[][] sheets = new int[4][];
    private final int[] forms = new int[4];
    private int latest = 0;

    /** What one run of the 30 days came to. */
    private static final class Course {
        final int[][] liking = new int[30][];
        final int[] found = new int[30];
    }

    // ---- the course of the days

    private int heirs() {
        return fault() == NONE && !text.isEmpty() ? text.split(";").length : 0;
    }

    private int goodOf(int heir, int thing) {
        return text.split(";")[heir].charAt(thing) - '0';
    }

    private boolean counts(int[] visit, int sleepBits) {
        return visit[1] < heirs() && (sleepBits & 1 << visit[0]) == 0;
    }

    private List<int[]> inOrder(List<int[]> told, int sleepBits) {
        List<int[]> rows = new ArrayList<>();
        for (int day = 0; day < 30; day++) {
            for (int[] v : told) if (v[0] == day && counts(v, sleepBits)) rows.add(v);
        }
        return rows;
    }

    private int growth(List<int[]> rows, int at, int[] taste) {
        int[] v = rows.get(at);
        int grows = taste[v[2]] * goodOf(v[1], v[2]);
        if (v[2] == 0) {
            boolean hungry = true;
            for (int[] w : rows.subList(0, at)) {
                if (w[2] == 0 && w[0] >= v[0] - hunger && w[0] <= v[0]) hungry = false;
            }
            if (hungry) grows = 2 * grows;
        }
        int lastThing = NONE;
        for (int[] w : rows.subList(0, at)) if (w[1] == v[1]) lastThing = w[2];
        if (lastThing == v[2]) grows -= habit;
        return Math.max(0, grows);
    }

    private Course course(int[] taste, List<int[]> told, int sleepBits, int trainer) {
        Course c = new Course();
        List<int[]> rows = inOrder(told, sleepBits);
        int[] now = new int[heirs()];
        int ahead = NONE;
        for (int day = 0; day < 30; day++) {
            boolean[] brought = new boolean[heirs()];
            for (int at = 0; at < rows.size(); at++) {
                if (rows.get(at)[0] != day) continue;
                now[rows.get(at)[1]] += growth(rows, at, taste);
                brought[rows.get(at)[1]] = true;
            }
            for (int h = 0; h < now.length; h++) if (!brought[h]) now[h] = Math.max(0, now[h] - fades);
            if (trainer != NONE) now[trainer] += night;
            c.liking[day] = now.clone();
            int greatest = Arrays.stream(now).max().orElse(0);
            int found = NONE;
            for (int h = now.length - 1; h >= 0; h--) if (greatest > 0 && now[h] == greatest) found = h;
            if (greatest > 0 && ahead != NONE && now[ahead] == greatest) found = ahead;
            c.found[day] = found;
            ahead = found;
        }
        return c;
    }

    private Course course(int dog) {
        return course(tastes[dog], visits, sleeps, NONE);
    }

    private List<int[]> with(int[]... more) {
        List<int[]> all = new ArrayList<>(visits);
        all.addAll(Arrays.asList(more));
        return all;
    }

    // ---- heirs, tastes, visits

    int type(int b) {
        if (b < 0 || b > 255) return BAD;
        if (text.length() == 23) return FULL;
        text = text + (char) b;
        return text.length();
    }

    int wipe() {
        int had = text.length();
        text = "";
        return had;
    }

    int undo() {
        if (text.isEmpty()) return NOT;
        text = text.substring(0, text.length() - 1);
        return text.length();
    }

    int fault() {
        String shape = "ddd;ddd;ddd;ddd;ddd;ddd";
        for (int i = 0; i < text.length(); i++) {
            String may = shape.charAt(i) == 'd' ? "0123456789" : ";";
            if (may.indexOf(text.charAt(i)) < 0) return i;
        }
        return text.isEmpty() || List.of(3, 7, 11, 15, 19, 23).contains(text.length()) ? NONE : text.length();
    }

    int good(int heir, int thing) {
        return in(heir, 0, heirs() - 1) && in(thing, 0, 2) ? goodOf(heir, thing) : BAD;
    }

    int taste(int dog, int thing, int v) {
        if (!in(dog, 0, 1) || !in(thing, 0, 2) || !in(v, 0, 9)) return BAD;
        int was = tastes[dog][thing];
        tastes[dog][thing] = v;
        return was;
    }

    int set(int what, int v) {
        if (!in(what, 0, 4) || !in(v, 0, what == 3 ? 1073741823 : 9)) return BAD;
        int was = new int[] {habit, hunger, fades, sleeps, night}[what];
        if (what == 0) habit = v;
        if (what == 1) hunger = v;
        if (what == 2) fades = v;
        if (what == 3) sleeps = v;
        if (what == 4) night = v;
        return was;
    }

    int visit(int day, int heir, int thing) {
        if (!in(day, 0, 29) || !in(heir, 0, 5) || !in(thing, 0, 2)) return BAD;
        if (visits.size() == 24) return FULL;
        visits.add(new int[] {day, heir, thing});
        return visits.size();
    }

    int back() {
        if (visits.isEmpty()) return NOT;
        visits.remove(visits.size() - 1);
        return visits.size();
    }

    int read(int s) {
        if (!in(s, 0, 3)) return BAD;
        if (sheets[s] == null) return finding(1);
        int took = 0;
        while (3 * took + 3 <= sheets[s].length
                && visit(sheets[s][3 * took], sheets[s][3 * took + 1], sheets[s][3 * took + 2]) > 0) took++;
        return took;
    }

    // ---- findings

    int liking(int dog, int day, int heir) {
        if (!in(dog, 0, 1) || !in(day, 0, 29) || !in(heir, 0, heirs() - 1)) return BAD;
        return course(dog).liking[day][heir];
    }

    int found(int dog, int day) {
        return in(dog, 0, 1) && in(day, 0, 29) ? course(dog).found[day] : BAD;
    }

    long share(int day, int heir, int what) {
        if (!in(day, 0, 29) || !in(heir, 0, heirs() - 1) || !in(what, 0, 1)) return Long.MIN_VALUE + 2;
        int[] liking = course(0).liking[day];
        int all = Arrays.stream(liking).sum();
        if (all == 0) return Long.MIN_VALUE + 3;
        return fraction(BigInteger.valueOf(liking[heir]), BigInteger.valueOf(all), what);
    }

    private String kindOf(int day) {
        List<String> kinds = new ArrayList<>();
        for (int[] v : visits) if (v[0] == day && counts(v, sleeps)) kinds.add(v[1] + "." + v[2]);
        kinds.sort(null);
        return kinds.toString();
    }

    int quarrel(int what) {
        if (!in(what, 0, 1)) return BAD;
        int[] found = course(0).found;
        for (int day = 0; day < 30; day++) {
            for (int like = 0; like < day; like++) {
                if (!kindOf(day).equals("[]") && kindOf(day).equals(kindOf(like)) && found[day] != found[like]) {
                    return what == 0 ? day : like;
                }
            }
        }
        return NONE;
    }

    int dissent() {
        int bits = 0;
        for (int day = 0; day < 30; day++) if (course(0).found[day] != course(1).found[day]) bits += 1 << day;
        return bits;
    }

    int changes() {
        int[] found = course(0).found;
        int many = found[0] == NONE ? 0 : 1;
        for (int day = 1; day < 30; day++) if (found[day] != found[day - 1]) many++;
        return many;
    }

    // ---- suits, turns

    int suit(int heir, int day, int i) {
        if (!in(heir, 0, heirs() - 1) || !in(day, 0, 9) || !in(i, -1, 2)) return BAD;
        int[] row = leastSuit(heir, day);
        if (row == null) return NONE;
        if (i == NONE) return row.length;
        return i < row.length ? row[i] : NONE;
    }

    private int[] leastSuit(int heir, int day) {
        int codes = 3 * day + 3;
        if (suits(heir, day)) return new int[0];
        for (int a = 0; a < codes; a++) if (suits(heir, day, a)) return new int[] {a};
        for (int a = 0; a < codes; a++) {
            for (int b = a; b < codes; b++) if (suits(heir, day, a, b)) return new int[] {a, b};
        }
        for (int a = 0; a < codes; a++) {
            for (int b = a; b < codes; b++) {
                for (int c = b; c < codes; c++) if (suits(heir, day, a, b, c)) return new int[] {a, b, c};
            }
        }
        return null;
    }

    private boolean suits(int heir, int day, int... row) {
        int[][] more = new int[row.length][];
        for (int k = 0; k < row.length; k++) more[k] = new int[] {row[k] / 3, heir, row[k] % 3};
        return course(tastes[0], with(more), sleeps, NONE).found[day] == heir;
    }

    int replies(int a, int b, int n, int what) {
        if (!in(a, 0, heirs() - 1) || !in(b, 0, heirs() - 1) || a == b || !in(n, 1, 4) || !in(what, 0, 1)) return BAD;
        for (int thing = 0; thing <= 3; thing++) {
            if (isFoundByTurns(a, b, n, new int[] {thing})) return what == 0 ? 1 : thing;
        }
        return what == 0 ? 0 : NONE;
    }

    private boolean isFoundByTurns(int a, int b, int n, int[] brought) {
        if (brought.length == n) {
            List<int[]> all = with();
            for (int day = 0; day < n; day++) {
                if (brought[day] < 3) all.add(new int[] {day, day % 2 == 0 ? a : b, brought[day]});
            }
            return course(tastes[0], all, sleeps, NONE).found[n - 1] == a;
        }
        int good = 0;
        for (int thing = 0; thing <= 3; thing++) {
            int[] longer = Arrays.copyOf(brought, brought.length + 1);
            longer[brought.length] = thing;
            if (isFoundByTurns(a, b, n, longer)) good++;
        }
        return brought.length % 2 == 0 ? good > 0 : good == 4;
    }

    // ---- seen

    int seen(int day, int heir) {
        if (!in(day, 0, 29) || !in(heir, -1, 5)) return BAD;
        if (seen.size() == 8) return FULL;
        seen.add(new int[] {day, heir});
        return seen.size();
    }

    int forget() {
        int had = seen.size();
        seen.clear();
        return had;
    }

    private boolean comesOut(Course c) {
        for (int[] one : seen) if (c.found[one[0]] != one[1]) return false;
        return true;
    }

    private List<int[]> allTastes() {
        List<int[]> rows = new ArrayList<>();
        for (int x = 0; x <= 9; x++) {
            for (int y = 0; y <= 9; y++) {
                for (int z = 0; z <= 9; z++) {
                    int[] row = {x, y, z};
                    if (comesOut(course(row, visits, sleeps, NONE))) rows.add(row);
                }
            }
        }
        return rows;
    }

    int tastes(int what) {
        if (!in(what, 0, 1)) return BAD;
        List<int[]> rows = allTastes();
        if (what == 0) return rows.size();
        return rows.isEmpty() ? NONE : 100 * rows.get(0)[0] + 10 * rows.get(0)[1] + rows.get(0)[2];
    }

    int tells(int day, int heir) {
        if (!in(day, 0, 29) || !in(heir, 0, heirs() - 1)) return BAD;
        List<int[]> rows = allTastes();
        int[] worst = new int[3];
        for (int thing = 0; thing < 3; thing++) {
            int[] alike = new int[7];
            List<int[]> all = with(new int[] {day, heir, thing});
            for (int[] row : rows) {
                int found = course(row, all, sleeps, NONE).found[day];
                alike[found == NONE ? 6 : found]++;
            }
            worst[thing] = Arrays.stream(alike).max().getAsInt();
        }
        if (worst[0] <= worst[1] && worst[0] <= worst[2]) return 0;
        return worst[1] <= worst[2] ? 1 : 2;
    }

    int trainer() {
        int bits = comesOut(course(0)) ? 64 : 0;
        for (int h = 0; h < heirs(); h++) {
            if (comesOut(course(tastes[0], visits, sleeps, h))) bits += 1 << h;
        }
        return bits;
    }

    // ---- chances, weeks

    private BigInteger weight(int c, int heir, int day, List<int[]> told) {
        BigInteger sum = BigInteger.ZERO;
        for (int mask = 0; mask < 1 << day + 1; mask++) {
            int asleep = Integer.bitCount(mask);
            BigInteger ways = BigInteger.valueOf(c).pow(asleep).multiply(BigInteger.valueOf(16 - c).pow(day + 1 - asleep));
            if (ways.signum() > 0 && course(tastes[0], told, mask, NONE).found[day] == heir) sum = sum.add(ways);
        }
        return sum;
    }

    long chance(int c, int heir, int day, int what) {
        if (!in(c, 0, 16) || !in(heir, 0, heirs() - 1) || !in(day, 0, 9) || !in(what, 0, 1)) return Long.MIN_VALUE + 2;
        return fraction(weight(c, heir, day, visits), BigInteger.valueOf(16).pow(day + 1), what);
    }

    int heard(int c, int heir, int thing, int day) {
        if (!in(c, 0, 16) || !in(heir, 0, heirs() - 1) || !in(thing, 0, 2) || !in(day, 0, 9)) return BAD;
        List<BigInteger> weights = new ArrayList<>();
        for (int on = 0; on <= day; on++) weights.add(weight(c, heir, day, with(new int[] {on, heir, thing})));
        return weights.indexOf(weights.stream().max(BigInteger::compareTo).get());
    }

    int weeks(int seed, int n, int heir) {
        if (!in(n, 1, 30) || !in(heir, -1, heirs() - 1)) return BAD;
        List<int[]> all = with();
        int lot = seed;
        for (int day = 0; day < n && heirs() > 0; day++) {
            lot = 1103515245 * lot + 12345;
            int who = (lot >> 16 & 0xffff) % heirs();
            lot = 1103515245 * lot + 12345;
            all.add(new int[] {day, who, (lot >> 16 & 0xffff) % 3});
        }
        int[] found = course(tastes[0], all, sleeps, NONE).found;
        if (heir == NONE) return found[n - 1];
        return (int) Arrays.stream(found, 0, n).filter(f -> f == heir).count();
    }

    // ---- sheets

    private int finding(int number) {
        latest = number;
        return -10 - number;
    }

    private static int low(int form, int v) {
        return form == 0 ? v << 24 >> 24 : form == 1 ? v << 16 >> 16 : v;
    }

    int sheet(int s, int form, int n) {
        if (!in(s, 0, 3) || !in(form, 0, 2) || n > 48) return BAD;
        if (n < 0) return finding(5);
        sheets[s] = new int[n];
        forms[s] = form;
        return n;
    }

    int lose(int s) {
        if (!in(s, 0, 3)) return BAD;
        if (sheets[s] == null) return finding(1);
        int had = sheets[s].length;
        sheets[s] = null;
        return had;
    }

    private int itemFinding(int s, int form, int i) {
        if (sheets[s] == null) return 1;
        if (forms[s] != form) return 3;
        return in(i, 0, sheets[s].length - 1) ? 0 : 2;
    }

    int put(int s, int form, int i, int v) {
        if (!in(s, 0, 3) || !in(form, 0, 2)) return BAD;
        if (itemFinding(s, form, i) != 0) return finding(itemFinding(s, form, i));
        sheets[s][i] = low(form, v);
        return 1;
    }

    int get(int s, int form, int i) {
        if (!in(s, 0, 3) || !in(form, 0, 2)) return Integer.MIN_VALUE;
        if (itemFinding(s, form, i) != 0) {
            finding(itemFinding(s, form, i));
            return Integer.MIN_VALUE;
        }
        return sheets[s][i];
    }

    int copy(int s, int i, int t, int j, int n) {
        if (!in(s, 0, 3) || !in(t, 0, 3)) return BAD;
        if (sheets[s] == null || sheets[t] == null) return finding(1);
        if (forms[s] != forms[t]) return finding(4);
        if (i < 0 || j < 0 || n < 0) return finding(2);
        if ((long) i + n > sheets[s].length || (long) j + n > sheets[t].length) return finding(2);
        int[] were = sheets[s].clone();
        for (int k = 0; k < n; k++) sheets[t][j + k] = were[i + k];
        return 1;
    }

    int write(int dog, int s) {
        if (!in(dog, 0, 1) || !in(s, 0, 3)) return BAD;
        if (sheets[s] == null) return finding(1);
        int many = 0;
        while (many < 30 && many < sheets[s].length) {
            sheets[s][many] = course(dog).found[many];
            many++;
        }
        return many;
    }

    int count(int what) {
        if (!in(what, 0, 8)) return BAD;
        int counting = inOrder(visits, sleeps).size();
        return new int[] {heirs(), text.length(), visits.size(), counting, seen.size(), habit, hunger, sleeps, latest}[what];
    }

    long digest() {
        List<Long> all = new ArrayList<>();
        for (int what = 0; what < 8; what++) all.add((long) count(what));
        all.add((long) fault());
        for (int h = 0; h < heirs(); h++) {
            all.addAll(List.of((long) good(h, 0), (long) good(h, 1), (long) good(h, 2)));
            all.addAll(List.of((long) liking(0, 9, h), (long) liking(1, 29, h)));
            all.addAll(List.of(share(5, h, 0), share(5, h, 1)));
            all.addAll(List.of((long) suit(h, 4, NONE), (long) suit(h, 4, 0)));
            all.addAll(List.of(chance(4, h, 5, 0), chance(4, h, 5, 1)));
            all.add((long) weeks(7, 9, h));
        }
        for (int day : new int[] {0, 1, 9, 29}) all.addAll(List.of((long) found(0, day), (long) found(1, day)));
        all.addAll(List.of((long) quarrel(0), (long) quarrel(1), (long) dissent(), (long) changes()));
        all.addAll(List.of((long) replies(0, 1, 3, 0), (long) replies(0, 1, 3, 1)));
        all.addAll(List.of((long) tastes(0), (long) tastes(1), (long) tells(3, 0), (long) trainer()));
        all.addAll(List.of((long) heard(4, 0, 0, 4), (long) weeks(7, 9, NONE)));
        long h = 17;
        for (long one : all) h = 31 * h + one;
        return h;
    }

    private static boolean in(int v, int least, int most) {
        return v >= least && v <= most;
    }

    private static long fraction(BigInteger above, BigInteger below, int what) {
        BigInteger divisor = above.gcd(below);
        return (what == 0 ? above : below).divide(divisor).longValueExact();
    }
}
