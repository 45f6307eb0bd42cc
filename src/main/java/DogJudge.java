/**
 * A will in which the dog is judge. Heirs come on days with a sausage, a coat or a stick; the
 * dog's liking grows and fades by that, and who is liked most behind a day is found. The numbers
 * of promises in the comments are those of DOC.md.
 */
public final class DogJudge {
    public static final int NONE = -1, BAD = -2, NOT = -3, FULL = -4;

    private static final int BYTES_MOST = 23;
    private static final int BYTES_AN_HEIR = 4;
    private static final int HEIRS_MOST = 6;
    private static final int DOGS = 2;
    private static final int JUDGE = 0;
    private static final int THINGS = 3;
    private static final int SAUSAGE = 0;
    private static final int DAYS = 30;
    private static final int SEARCH_DAYS = 10;
    private static final int VISITS_MOST = 24;
    private static final int SEEN_MOST = 8;
    private static final int SUIT_MOST = 3;
    private static final int TURNS_MOST = 4;
    private static final int TASTE_MOST = 9;
    private static final int TASTE_ROWS = 1000;
    private static final int SIXTEENTHS = 16;
    private static final int NOBODY_TRAINS = 1 << HEIRS_MOST;

    private static final int HABIT = 0, HUNGER = 1, FADES = 2, SLEEPS = 3, NIGHT = 4;
    private static final int WAYS = 5;
    private static final int[] WAYS_MOST = {9, 9, 9, (1 << DAYS) - 1, 9};

    private static final int NULL = 1, INDEX = 2, CAST = 3, STORE = 4, SIZE = 5;
    private static final int[] DIGEST_DAYS = {0, 1, 9, 29};

    private final Heirs heirs;
    private final Visits visits;
    private final int[] ways;
    private final int[][] tastes;
    private final Court court;
    private final Seen seen;
    private final Suits suits;
    private final Turns turns;
    private final Chances chances;
    private final Sheets sheets;
    private final int[][] foundRows;
    private final int[] tally;
    private final int[] trial;

    public DogJudge() {
        heirs = new Heirs();
        visits = new Visits();
        ways = new int[] {1, 3, 0, 0, 2};
        tastes = new int[][] {{1, 1, 1}, {1, 1, 1}};
        trial = new int[THINGS];
        court = new Court(heirs, visits, ways);
        seen = new Seen();
        suits = new Suits(court);
        turns = new Turns(court);
        chances = new Chances(court);
        sheets = new Sheets();
        foundRows = new int[DOGS][DAYS];
        tally = new int[THINGS * (HEIRS_MOST + 1)];
    }

    // ---- heirs, tastes, visits

    public int type(int b) {
        if (b < 0 || b > 255) return BAD;
        if (heirs.bytes >= BYTES_MOST) return FULL;
        heirs.text[heirs.bytes] = b;
        heirs.bytes++;
        heirs.understand();
        return heirs.bytes;
    }

    public int wipe() {
        int had = heirs.bytes;
        heirs.bytes = 0;
        heirs.understand();
        return had;
    }

    public int undo() {
        if (heirs.bytes <= 0) return NOT;
        heirs.bytes--;
        heirs.understand();
        return heirs.bytes;
    }

    public int fault() {
        return heirs.faultAt;
    }

    public int good(int heir, int thing) {
        if (!heirs.has(heir) || !isThing(thing)) return BAD;
        return heirs.goods[heir * THINGS + thing];
    }

    public int taste(int dog, int thing, int v) {
        if (!isDog(dog) || !isThing(thing) || v < 0 || v > TASTE_MOST) return BAD;
        int was = tastes[dog][thing];
        tastes[dog][thing] = v;
        return was;
    }

    public int set(int what, int v) {
        if (what < 0 || what >= WAYS || v < 0 || v > WAYS_MOST[what]) return BAD;
        int was = ways[what];
        ways[what] = v;
        return was;
    }

    public int visit(int day, int heir, int thing) {
        if (!isDay(day) || heir < 0 || heir >= HEIRS_MOST || !isThing(thing)) return BAD;
        if (visits.told >= VISITS_MOST) return FULL;
        visits.tell(day, heir, thing);
        return visits.told;
    }

    public int back() {
        if (visits.told <= 0) return NOT;
        visits.untell();
        return visits.told;
    }

    public int read(int s) {
        if (!sheets.isPlace(s)) return BAD;
        if (sheets.isLost(s)) return sheets.find(NULL);
        int[] items = sheets.rows[s];
        int took = 0;
        for (int i = 0; i + 2 < sheets.sizes[s] && i + 2 < items.length; i += 3) {
            if (visit(items[i], items[i + 1], items[i + 2]) < 0) break;
            took++;
        }
        return took;
    }

    // ---- findings

    public int liking(int dog, int day, int heir) {
        if (!isDog(dog) || !isDay(day) || !heirs.has(heir)) return BAD;
        return moodBehind(dog, day).liking[heir];
    }

    public int found(int dog, int day) {
        if (!isDog(dog) || !isDay(day)) return BAD;
        return moodBehind(dog, day).found;
    }

    public long share(int day, int heir, int what) {
        if (!isDay(day) || !heirs.has(heir) || !isOneOfTwo(what)) return refusal(BAD);
        Mood mood = moodBehind(JUDGE, day);
        long all = 0;
        for (int i = 0; i < heirs.many; i++) all += mood.liking[i];
        if (all == 0) return refusal(NOT);
        return fraction(mood.liking[heir], all, what);
    }

    public int quarrel(int what) {
        if (!isOneOfTwo(what)) return BAD;
        noteFound(JUDGE);
        int[] row = foundRows[JUDGE];
        for (int day = 1; day < DAYS; day++) {
            for (int ahead = 0; ahead < day; ahead++) {
                if (row[day] != row[ahead] && areAlike(day, ahead)) return what == 0 ? day : ahead;
            }
        }
        return NONE;
    }

    public int dissent() {
        noteFound(0);
        noteFound(1);
        int bits = 0;
        for (int day = 0; day < DAYS; day++) {
            if (foundRows[0][day] != foundRows[1][day]) bits |= 1 << day;
        }
        return bits;
    }

    public int changes() {
        noteFound(JUDGE);
        int many = 0;
        int ahead = NONE;
        for (int day = 0; day < DAYS; day++) {
            int now = foundRows[JUDGE][day];
            if (now != ahead) many++;
            ahead = now;
        }
        return many;
    }

    // ---- suits, turns

    public int suit(int heir, int day, int i) {
        if (!heirs.has(heir) || !isSearchDay(day) || i < NONE || i >= SUIT_MOST) return BAD;
        for (int many = 0; many <= SUIT_MOST; many++) {
            suits.plead(tastes[JUDGE], heir, day);
            if (Suits.seek(suits, 0, 0, many)) {
                if (i == NONE) return many;
                return i < many ? suits.row[i] : NONE;
            }
        }
        return NONE;
    }

    public int replies(int a, int b, int n, int what) {
        if (!heirs.has(a) || !heirs.has(b) || a == b) return BAD;
        if (n < 1 || n > TURNS_MOST || !isOneOfTwo(what)) return BAD;
        int first = turns.leastThatWins(tastes[JUDGE], a, b, n);
        if (what == 1) return first;
        return first == NONE ? 0 : 1;
    }

    // ---- seen

    public int seen(int day, int heir) {
        if (!isDay(day) || heir < NONE || heir >= HEIRS_MOST) return BAD;
        if (seen.many >= SEEN_MOST) return FULL;
        seen.add(day, heir);
        return seen.many;
    }

    public int forget() {
        int had = seen.many;
        seen.clear();
        return had;
    }

    public int tastes(int what) {
        if (!isOneOfTwo(what)) return BAD;
        int many = 0;
        for (int row = 0; row < TASTE_ROWS; row++) {
            if (!explains(row)) continue;
            if (what == 1) return row;
            many++;
        }
        return what == 1 ? NONE : many;
    }

    public int tells(int day, int heir) {
        if (!isDay(day) || !heirs.has(heir)) return BAD;
        for (int i = 0; i < tally.length; i++) tally[i] = 0;
        for (int row = 0; row < TASTE_ROWS; row++) {
            if (explains(row)) tallyFindings(day, heir);
        }
        int least = 0;
        for (int thing = 1; thing < THINGS; thing++) {
            if (greatestTally(thing) < greatestTally(least)) least = thing;
        }
        return least;
    }

    public int trainer() {
        int bits = 0;
        for (int heir = 0; heir < heirs.many; heir++) {
            if (comesOut(tastes[JUDGE], heir)) bits |= 1 << heir;
        }
        return comesOut(tastes[JUDGE], NONE) ? bits | NOBODY_TRAINS : bits;
    }

    // ---- chances, weeks

    public long chance(int c, int heir, int day, int what) {
        if (!isChance(c) || !heirs.has(heir) || !isSearchDay(day) || !isOneOfTwo(what)) return refusal(BAD);
        chances.ask(c, heir, day);
        long below = 1;
        for (int i = 0; i <= day; i++) below *= SIXTEENTHS;
        return fraction(chances.weigh(tastes[JUDGE], NONE, NONE), below, what);
    }

    public int heard(int c, int heir, int thing, int day) {
        if (!isChance(c) || !heirs.has(heir) || !isThing(thing) || !isSearchDay(day)) return BAD;
        chances.ask(c, heir, day);
        int best = 0;
        long greatest = -1;
        for (int on = 0; on <= day; on++) {
            long weight = chances.weigh(tastes[JUDGE], on, thing);
            if (weight > greatest) {
                greatest = weight;
                best = on;
            }
        }
        return best;
    }

    public int weeks(int seed, int n, int heir) {
        if (n < 1 || n > DAYS || (heir != NONE && !heirs.has(heir))) return BAD;
        Mood mood = court.moods[0];
        mood.begin(tastes[JUDGE], NONE);
        int lot = seed;
        int behind = 0;
        for (int day = 0; day < n; day++) {
            boolean awake = court.isAwake(day);
            if (awake) court.comeAsTold(mood, day);
            if (heirs.many > 0) {
                lot = nextLot(lot);
                int who = (lot >>> 16) % heirs.many;
                lot = nextLot(lot);
                if (awake) court.bring(mood, day, who, (lot >>> 16) % THINGS);
            }
            court.evening(mood);
            if (mood.found == heir) behind++;
        }
        return heir == NONE ? mood.found : behind;
    }

    // ---- sheets

    public int sheet(int s, int form, int n) {
        if (!sheets.isPlace(s) || !sheets.isForm(form) || n > Sheets.ITEMS_MOST) return BAD;
        if (n < 0) return sheets.find(SIZE);
        sheets.renew(s, form, n);
        return n;
    }

    public int lose(int s) {
        if (!sheets.isPlace(s)) return BAD;
        if (sheets.isLost(s)) return sheets.find(NULL);
        sheets.forms[s] = Sheets.LOST;
        return sheets.sizes[s];
    }

    public int put(int s, int form, int i, int v) {
        if (!sheets.isPlace(s) || !sheets.isForm(form)) return BAD;
        int finding = sheets.findingAt(s, form, i);
        if (finding != 0) return sheets.find(finding);
        sheets.rows[s][i] = sheets.fit(form, v);
        return 1;
    }

    public int get(int s, int form, int i) {
        if (!sheets.isPlace(s) || !sheets.isForm(form)) return Integer.MIN_VALUE;
        int finding = sheets.findingAt(s, form, i);
        if (finding != 0) {
            sheets.find(finding);
            return Integer.MIN_VALUE;
        }
        return sheets.rows[s][i];
    }

    public int copy(int s, int i, int t, int j, int n) {
        if (!sheets.isPlace(s) || !sheets.isPlace(t)) return BAD;
        if (sheets.isLost(s) || sheets.isLost(t)) return sheets.find(NULL);
        if (sheets.forms[s] != sheets.forms[t]) return sheets.find(STORE);
        if (!sheets.hasRun(s, i, n) || !sheets.hasRun(t, j, n)) return sheets.find(INDEX);
        System.arraycopy(sheets.rows[s], i, sheets.rows[t], j, n);
        return 1;
    }

    public int write(int dog, int s) {
        if (!isDog(dog) || !sheets.isPlace(s)) return BAD;
        if (sheets.isLost(s)) return sheets.find(NULL);
        noteFound(dog);
        int many = Math.min(sheets.sizes[s], DAYS);
        for (int day = 0; day < many; day++) {
            sheets.rows[s][day] = sheets.fit(sheets.forms[s], foundRows[dog][day]);
        }
        return many;
    }

    public int count(int what) {
        switch (what) {
            case 0: return heirs.many;
            case 1: return heirs.bytes;
            case 2: return visits.told;
            case 3: return visitsThatCount();
            case 4: return seen.many;
            case 5: return ways[HABIT];
            case 6: return ways[HUNGER];
            case 7: return ways[SLEEPS];
            case 8: return sheets.latestFinding;
            default: return BAD;
        }
    }

    public long digest() {
        long h = 17;
        for (int what = 0; what <= 7; what++) h = mix(h, count(what));
        h = mix(h, fault());
        for (int heir = 0; heir < heirs.many; heir++) {
            for (int thing = 0; thing < THINGS; thing++) h = mix(h, good(heir, thing));
            h = mix(mix(h, liking(0, 9, heir)), liking(1, 29, heir));
            h = mix(mix(h, share(5, heir, 0)), share(5, heir, 1));
            h = mix(mix(h, suit(heir, 4, NONE)), suit(heir, 4, 0));
            h = mix(mix(h, chance(4, heir, 5, 0)), chance(4, heir, 5, 1));
            h = mix(h, weeks(7, 9, heir));
        }
        for (int day : DIGEST_DAYS) h = mix(mix(h, found(0, day)), found(1, day));
        h = mix(mix(h, quarrel(0)), quarrel(1));
        h = mix(mix(h, dissent()), changes());
        h = mix(mix(h, replies(0, 1, 3, 0)), replies(0, 1, 3, 1));
        h = mix(mix(h, tastes(0)), tastes(1));
        h = mix(mix(h, tells(3, 0)), trainer());
        h = mix(mix(h, heard(4, 0, 0, 4)), weeks(7, 9, NONE));
        return h;
    }

    // ---- what the calls above share

    private static long mix(long h, long next) {
        return 31 * h + next;
    }

    private static int nextLot(int lot) {
        return 1103515245 * lot + 12345;
    }

    private static boolean isDog(int dog) {
        return dog >= 0 && dog < DOGS;
    }

    private static boolean isThing(int thing) {
        return thing >= 0 && thing < THINGS;
    }

    private static boolean isDay(int day) {
        return day >= 0 && day < DAYS;
    }

    private static boolean isSearchDay(int day) {
        return day >= 0 && day < SEARCH_DAYS;
    }

    private static boolean isOneOfTwo(int what) {
        return what == 0 || what == 1;
    }

    private static boolean isChance(int c) {
        return c >= 0 && c <= SIXTEENTHS;
    }

    private static long refusal(int why) {
        return Long.MIN_VALUE - why;
    }

    private static long fraction(long above, long below, int what) {
        long divisor = greatestDivisor(above, below);
        if (divisor == 0) return 0;
        return (what == 0 ? above : below) / divisor;
    }

    private static long greatestDivisor(long a, long b) {
        long big = a;
        long small = b;
        // Euclid's way takes fewer than a hundred steps for any two longs.
        for (int i = 0; i < 200 && small != 0; i++) {
            long rest = big % small;
            big = small;
            small = rest;
        }
        return big;
    }

    private Mood moodBehind(int dog, int day) {
        Mood mood = court.moods[0];
        mood.begin(tastes[dog], NONE);
        for (int d = 0; d <= day; d++) court.liveDay(mood, d);
        return mood;
    }

    private void noteFound(int dog) {
        Mood mood = court.moods[0];
        mood.begin(tastes[dog], NONE);
        for (int day = 0; day < DAYS; day++) {
            court.liveDay(mood, day);
            foundRows[dog][day] = mood.found;
        }
    }

    private boolean areAlike(int day, int other) {
        if (!court.isAwake(day) || !court.isAwake(other)) return false;
        for (int i = 0; i < tally.length; i++) tally[i] = 0;
        int cameThen = tallyVisits(other, -1);
        int cameNow = tallyVisits(day, 1);
        if (cameNow == 0 || cameNow != cameThen) return false;
        for (int i = 0; i < tally.length; i++) {
            if (tally[i] != 0) return false;
        }
        return true;
    }

    private int tallyVisits(int day, int by) {
        int came = 0;
        for (int k = visits.starts[day]; k < visits.starts[day + 1]; k++) {
            int heir = visits.heirAt(k);
            if (!heirs.has(heir)) continue;
            tally[heir * THINGS + visits.thingAt(k)] += by;
            came++;
        }
        return came;
    }

    private int visitsThatCount() {
        int many = 0;
        for (int day = 0; day < DAYS; day++) {
            if (court.isAwake(day)) many += court.comersOn(day);
        }
        return many;
    }

    private boolean explains(int row) {
        trial[0] = row / 100;
        trial[1] = row / 10 % 10;
        trial[2] = row % 10;
        return comesOut(trial, NONE);
    }

    private boolean comesOut(int[] whose, int trainer) {
        if (seen.clashes) return false;
        Mood mood = court.moods[0];
        mood.begin(whose, trainer);
        for (int day = 0; day <= seen.lastDay; day++) {
            court.liveDay(mood, day);
            if (!seen.allows(day, mood.found)) return false;
        }
        return true;
    }

    /** Tallies, for the tastes on trial, who is found behind the day by each thing brought more. */
    private void tallyFindings(int day, int heir) {
        Mood ahead = court.moods[0];
        Mood mood = court.moods[1];
        boolean awake = court.isAwake(day);
        ahead.begin(trial, NONE);
        for (int d = 0; d < day; d++) court.liveDay(ahead, d);
        if (awake) court.comeAsTold(ahead, day);
        for (int thing = 0; thing < THINGS; thing++) {
            mood.become(ahead);
            if (awake) court.bring(mood, day, heir, thing);
            court.evening(mood);
            tally[thing * (HEIRS_MOST + 1) + mood.found + 1]++;
        }
    }

    private int greatestTally(int thing) {
        int greatest = 0;
        for (int i = 0; i <= HEIRS_MOST; i++) {
            greatest = Math.max(greatest, tally[thing * (HEIRS_MOST + 1) + i]);
        }
        return greatest;
    }

    /** The text of heirs and what it says. */
    private static final class Heirs {
        final int[] text = new int[BYTES_MOST];
        final int[] goods = new int[HEIRS_MOST * THINGS];
        int bytes;
        int many;
        int faultAt = NONE;

        boolean has(int heir) {
            return heir >= 0 && heir < many;
        }

        // A seventh heir would begin behind the text's last byte, so that no fault can lie there.
        void understand() {
            faultAt = firstFault();
            many = faultAt == NONE ? (bytes + 1) / BYTES_AN_HEIR : 0;
            for (int heir = 0; heir < many; heir++) {
                for (int thing = 0; thing < THINGS; thing++) {
                    goods[heir * THINGS + thing] = text[heir * BYTES_AN_HEIR + thing] - '0';
                }
            }
        }

        private int firstFault() {
            for (int i = 0; i < bytes; i++) {
                boolean betweenHeirs = i % BYTES_AN_HEIR == THINGS;
                boolean fits = betweenHeirs ? text[i] == ';' : text[i] >= '0' && text[i] <= '9';
                if (!fits) return i;
            }
            boolean ended = bytes == 0 || bytes % BYTES_AN_HEIR == THINGS;
            return ended ? NONE : bytes;
        }
    }

    /** The visits as told, and the same in the order of their days. */
    private static final class Visits {
        final int[] days = new int[VISITS_MOST];
        final int[] who = new int[VISITS_MOST];
        final int[] what = new int[VISITS_MOST];
        final int[] byDay = new int[VISITS_MOST];
        final int[] starts = new int[DAYS + 1];
        int told;

        void tell(int day, int heir, int thing) {
            days[told] = day;
            who[told] = heir;
            what[told] = thing;
            int at = starts[day + 1];
            for (int k = told; k > at; k--) byDay[k] = byDay[k - 1];
            byDay[at] = told;
            for (int d = day + 1; d <= DAYS; d++) starts[d]++;
            told++;
        }

        // What was told last is the last of its day, too.
        void untell() {
            told--;
            int day = days[told];
            for (int d = day + 1; d <= DAYS; d++) starts[d]--;
            for (int k = starts[day + 1]; k < told; k++) byDay[k] = byDay[k + 1];
        }

        int heirAt(int k) {
            return who[byDay[k]];
        }

        int thingAt(int k) {
            return what[byDay[k]];
        }
    }

    /** How a dog feels about the heirs, as the days go by. */
    private static final class Mood {
        private static final int LONG_AGO = -100;

        final int[] liking = new int[HEIRS_MOST];
        final int[] last = new int[HEIRS_MOST];
        final int[] tastes = new int[THINGS];
        int trainer;
        /** Who brought something today that counted, as bits. */
        int came;
        int sausageDay;
        int found;

        void begin(int[] whoseTastes, int trainedBy) {
            trainer = trainedBy;
            came = 0;
            sausageDay = LONG_AGO;
            found = NONE;
            for (int i = 0; i < THINGS; i++) tastes[i] = whoseTastes[i];
            for (int i = 0; i < HEIRS_MOST; i++) {
                liking[i] = 0;
                last[i] = NONE;
            }
        }

        void become(Mood other) {
            trainer = other.trainer;
            came = other.came;
            sausageDay = other.sausageDay;
            found = other.found;
            System.arraycopy(other.tastes, 0, tastes, 0, THINGS);
            System.arraycopy(other.liking, 0, liking, 0, HEIRS_MOST);
            System.arraycopy(other.last, 0, last, 0, HEIRS_MOST);
        }
    }

    /** The course of a day: who comes, what the dog likes of it, who is found. */
    private static final class Court {
        final Heirs heirs;
        final Visits visits;
        final int[] ways;
        /** Moods to work with: a search by days needs one ahead of each and one behind the last. */
        final Mood[] moods;

        Court(Heirs heirs, Visits visits, int[] ways) {
            this.heirs = heirs;
            this.visits = visits;
            this.ways = ways;
            moods = new Mood[SEARCH_DAYS + 1];
            for (int i = 0; i < moods.length; i++) moods[i] = new Mood();
        }

        boolean isAwake(int day) {
            return (ways[SLEEPS] >>> day & 1) == 0;
        }

        int comersOn(int day) {
            int many = 0;
            for (int k = visits.starts[day]; k < visits.starts[day + 1]; k++) {
                if (heirs.has(visits.heirAt(k))) many++;
            }
            return many;
        }

        void liveDay(Mood mood, int day) {
            if (isAwake(day)) comeAsTold(mood, day);
            evening(mood);
        }

        void comeAsTold(Mood mood, int day) {
            for (int k = visits.starts[day]; k < visits.starts[day + 1]; k++) {
                bring(mood, day, visits.heirAt(k), visits.thingAt(k));
            }
        }

        void bring(Mood mood, int day, int heir, int thing) {
            if (heir < 0 || heir >= heirs.many || thing < 0 || thing >= THINGS) return;
            int grows = mood.tastes[thing] * heirs.goods[heir * THINGS + thing];
            if (thing == SAUSAGE) {
                if (mood.sausageDay < day - ways[HUNGER]) grows *= 2;
                mood.sausageDay = day;
            }
            if (mood.last[heir] == thing) grows -= ways[HABIT];
            if (grows > 0) mood.liking[heir] += grows;
            mood.last[heir] = thing;
            mood.came |= 1 << heir;
        }

        void evening(Mood mood) {
            int night = mood.trainer == NONE ? 0 : ways[NIGHT];
            // Where no liking changes, who was found is found again.
            if (mood.came == 0 && ways[FADES] == 0 && night == 0) return;
            for (int i = 0; i < heirs.many; i++) {
                boolean brought = (mood.came >>> i & 1) != 0;
                if (!brought) mood.liking[i] = Math.max(0, mood.liking[i] - ways[FADES]);
                if (i == mood.trainer) mood.liking[i] += night;
            }
            mood.came = 0;
            mood.found = mostLiked(mood);
        }

        private int mostLiked(Mood mood) {
            int most = 0;
            int who = NONE;
            for (int i = 0; i < heirs.many; i++) {
                if (mood.liking[i] > most) {
                    most = mood.liking[i];
                    who = i;
                }
            }
            if (who == NONE || mood.found == NONE) return who;
            return mood.liking[mood.found] == most ? mood.found : who;
        }
    }

    /** What was seen: by day who was to be found. */
    private static final class Seen {
        private static final int UNSEEN = -2;

        final int[] wanted = new int[DAYS];
        int many;
        int lastDay;
        /** Whether one day was seen in two ways, so that nothing can come out so. */
        boolean clashes;

        Seen() {
            clear();
        }

        void clear() {
            many = 0;
            lastDay = NONE;
            clashes = false;
            for (int day = 0; day < DAYS; day++) wanted[day] = UNSEEN;
        }

        void add(int day, int heir) {
            if (!allows(day, heir)) clashes = true;
            wanted[day] = heir;
            lastDay = Math.max(lastDay, day);
            many++;
        }

        boolean allows(int day, int heir) {
            return wanted[day] == UNSEEN || wanted[day] == heir;
        }
    }

    /** Looks for visits more by which an heir is found. */
    private static final class Suits {
        final Court court;
        final int[] row = new int[SUIT_MOST];
        int heir;
        int lastDay;

        Suits(Court court) {
            this.court = court;
        }

        void plead(int[] tastes, int suitor, int day) {
            heir = suitor;
            lastDay = day;
            Mood mood = court.moods[0];
            mood.begin(tastes, NONE);
            if (court.isAwake(0)) court.comeAsTold(mood, 0);
        }

        /**
         * Whether the heir is found by so many visits more than the row has (as many as deep), none
         * less than code. The mood of this depth stands on the day of code, its visits told.
         * The least code is tried first, so that the first row which is found is the least one.
         */
        private static boolean seek(Suits suits, int depth, int code, int left) {
            if (depth + left > SUIT_MOST) return false;
            Court court = suits.court;
            Mood mood = court.moods[depth];
            if (left == 0) return suits.isFoundAfter(mood, code / THINGS);
            for (int next = code; next < (suits.lastDay + 1) * THINGS; next++) {
                int day = next / THINGS;
                if (next > code && next % THINGS == 0) {
                    court.evening(mood);
                    if (court.isAwake(day)) court.comeAsTold(mood, day);
                }
                // A visit that does not count is never among the fewest.
                if (!court.isAwake(day)) continue;
                suits.row[depth] = next;
                court.moods[depth + 1].become(mood);
                court.bring(court.moods[depth + 1], day, suits.heir, next % THINGS);
                if (seek(suits, depth + 1, next, left - 1)) return true;
            }
            return false;
        }

        private boolean isFoundAfter(Mood mood, int day) {
            court.evening(mood);
            for (int d = day + 1; d <= lastDay; d++) court.liveDay(mood, d);
            return mood.found == heir;
        }
    }

    /** Two heirs who come by turns, the second against the first. */
    private static final class Turns {
        private static final int NOTHING = 3;

        final Court court;
        int first;
        int second;
        int days;

        Turns(Court court) {
            this.court = court;
        }

        int leastThatWins(int[] tastes, int a, int b, int n) {
            first = a;
            second = b;
            days = n;
            court.moods[0].begin(tastes, NONE);
            for (int thing = 0; thing <= NOTHING; thing++) {
                if (winsBy(0, thing)) return thing;
            }
            return NONE;
        }

        /** Whether the first one is found in the end, if on this day that is brought. */
        private boolean winsBy(int day, int thing) {
            Mood mood = court.moods[day + 1];
            mood.become(court.moods[day]);
            if (court.isAwake(day)) {
                court.comeAsTold(mood, day);
                if (thing < NOTHING) court.bring(mood, day, day % 2 == 0 ? first : second, thing);
            }
            court.evening(mood);
            return day + 1 >= days ? mood.found == first : winsFrom(day + 1);
        }

        private boolean winsFrom(int day) {
            boolean firstChooses = day % 2 == 0;
            for (int thing = 0; thing <= NOTHING; thing++) {
                if (winsBy(day, thing) == firstChooses) return firstChooses;
            }
            return !firstChooses;
        }
    }

    /** Weighs all ways in which the judge may sleep. */
    private static final class Chances {
        final Court court;
        int sleepy;
        int heir;
        int lastDay;
        int moreDay;
        int moreThing;

        Chances(Court court) {
            this.court = court;
        }

        void ask(int c, int who, int day) {
            sleepy = c;
            heir = who;
            lastDay = day;
        }

        /** Of 16 to the power of the days: how many find the heir, if it brings one thing more. */
        long weigh(int[] tastes, int onDay, int thing) {
            moreDay = onDay;
            moreThing = thing;
            court.moods[0].begin(tastes, NONE);
            return weighFrom(this, 0);
        }

        private static long weighFrom(Chances chances, int day) {
            Court court = chances.court;
            Mood ahead = court.moods[day];
            if (day > chances.lastDay) return ahead.found == chances.heir ? 1 : 0;
            Mood mood = court.moods[day + 1];
            // Where nobody comes, it is all one whether it sleeps.
            boolean comes = day == chances.moreDay || court.comersOn(day) > 0;
            int asleep = comes ? chances.sleepy : SIXTEENTHS;
            long weight = 0;
            if (asleep > 0) {
                mood.become(ahead);
                court.evening(mood);
                weight += asleep * weighFrom(chances, day + 1);
            }
            if (asleep < SIXTEENTHS) {
                mood.become(ahead);
                court.comeAsTold(mood, day);
                if (day == chances.moreDay) court.bring(mood, day, chances.heir, chances.moreThing);
                court.evening(mood);
                weight += (SIXTEENTHS - asleep) * weighFrom(chances, day + 1);
            }
            return weight;
        }
    }

    /** Rows of items, and the latest finding. */
    private static final class Sheets {
        private static final int PLACES = 4;
        private static final int FORMS = 3;
        private static final int LOST = -1;
        private static final int ITEMS_MOST = 48;

        final int[] forms = new int[PLACES];
        final int[] sizes = new int[PLACES];
        final int[][] rows = new int[PLACES][ITEMS_MOST];
        int latestFinding;

        Sheets() {
            for (int s = 0; s < PLACES; s++) forms[s] = LOST;
        }

        boolean isPlace(int s) {
            return s >= 0 && s < PLACES;
        }

        boolean isForm(int form) {
            return form >= 0 && form < FORMS;
        }

        boolean isLost(int s) {
            return forms[s] == LOST;
        }

        int find(int number) {
            latestFinding = number;
            return -10 - number;
        }

        void renew(int s, int form, int n) {
            forms[s] = form;
            sizes[s] = n;
            for (int i = 0; i < ITEMS_MOST; i++) rows[s][i] = 0;
        }

        int findingAt(int s, int form, int i) {
            if (isLost(s)) return NULL;
            if (forms[s] != form) return CAST;
            return i < 0 || i >= sizes[s] ? INDEX : 0;
        }

        boolean hasRun(int s, int from, int n) {
            return from >= 0 && n >= 0 && n <= sizes[s] && from <= sizes[s] - n;
        }

        int fit(int form, int v) {
            switch (form) {
                case 0: return (byte) v;
                case 1: return (short) v;
                default: return v;
            }
        }
    }
}
