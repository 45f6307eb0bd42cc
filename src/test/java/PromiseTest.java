/** Promise by promise what is due, worked out by hand from the document. */
public final class PromiseTest {
    private static final int NONE = -1, BAD = -2, NOT = -3, FULL = -4;
    private static final int NULL = -11, INDEX = -12, CAST = -13, STORE = -14, SIZE = -15;
    private static final int SAUSAGE = 0, COAT = 1, STICK = 2;
    private static final int LEAST = Integer.MIN_VALUE, MOST = Integer.MAX_VALUE;
    private static final long LONG_BAD = Long.MIN_VALUE + 2, LONG_NOT = Long.MIN_VALUE + 3;
    private static final int ALL_DAYS = (1 << 30) - 1;

    private static int wrong = 0;
    private static int promise = 0;
    private static int place = 0;

    private PromiseTest() {
    }

    private static void promise(int number) {
        promise = number;
        place = 0;
    }

    /** Answers follow one another within a promise; its number and place tell which one is wrong. */
    private static void due(long want, long got) {
        place++;
        if (want == got) return;
        wrong++;
        int line = new Throwable().getStackTrace()[1].getLineNumber();
        System.out.println("promise " + promise + ", answer " + place + " (line " + line + "): " + got + ", due is " + want);
    }

    private static DogJudge heirs(String text) {
        DogJudge x = new DogJudge();
        for (char c : text.toCharArray()) x.type(c);
        return x;
    }

    private static DogJudge come(DogJudge x, int... daysHeirsThings) {
        for (int i = 0; i < daysHeirsThings.length; i += 3) {
            x.visit(daysHeirsThings[i], daysHeirsThings[i + 1], daysHeirsThings[i + 2]);
        }
        return x;
    }

    private static DogJudge items(DogJudge x, int s, int form, int... items) {
        x.sheet(s, form, items.length);
        for (int i = 0; i < items.length; i++) x.put(s, form, i, items[i]);
        return x;
    }

    private static int faultOf(String text) {
        return heirs(text).fault();
    }

    public static void main(String[] args) {
        newObject();
        type();
        wipe();
        undo();
        fault();
        good();
        taste();
        set();
        visit();
        back();
        read();
        liking();
        found();
        share();
        quarrel();
        dissent();
        changes();
        suit();
        suitByDays();
        replies();
        seen();
        forget();
        tastes();
        tells();
        trainer();
        chance();
        heard();
        weeks();
        sheet();
        lose();
        put();
        get();
        copy();
        write();
        count();
        digest();
        System.out.println(wrong == 0 ? "all promises hold" : wrong + " answers are not as due");
        if (wrong != 0) System.exit(1);
    }

    private static void newObject() {
        promise(1);
        DogJudge x = new DogJudge();
        due(-1, DogJudge.NONE);
        due(-2, DogJudge.BAD);
        due(-3, DogJudge.NOT);
        due(-4, DogJudge.FULL);
        int[] counts = {0, 0, 0, 0, 0, 1, 3, 0, 0};
        for (int what = 0; what < 9; what++) due(counts[what], x.count(what));
        due(NONE, x.fault());
        for (int s = 0; s < 4; s++) due(NULL, x.lose(s));
        due(NONE, x.found(0, 29));
        due(1, x.set(0, 0));
        due(3, x.set(1, 0));
        due(0, x.set(2, 0));
        due(0, x.set(3, 0));
        due(2, x.set(4, 0));
        for (int i = 0; i < 6; i++) due(1, x.taste(i / 3, i % 3, 0));
    }

    private static void type() {
        promise(2);
        DogJudge x = new DogJudge();
        due(BAD, x.type(-1));
        due(BAD, x.type(256));
        due(BAD, x.type(LEAST));
        due(0, x.count(1));
        for (int i = 1; i <= 23; i++) due(i, x.type(i % 2 == 0 ? 0 : 255));
        due(FULL, x.type('1'));
        due(BAD, x.type(256));
        due(23, x.count(1));
        DogJudge y = heirs("111;111;111;111;111;111");
        due(6, y.count(0));
        due(FULL, y.type(';'));
        due(6, y.count(0));
        due(NONE, y.fault());
    }

    private static void wipe() {
        promise(3);
        DogJudge x = heirs("123;456");
        x.visit(0, 0, COAT);
        due(7, x.wipe());
        due(0, x.count(0));
        due(0, x.count(1));
        due(1, x.count(2));
        due(NONE, x.found(0, 0));
        due(0, x.wipe());
        x.type('9');
        due(1, x.fault());
        due(1, x.wipe());
        due(NONE, x.fault());
    }

    private static void undo() {
        promise(4);
        DogJudge x = heirs("123;4");
        due(0, x.count(0));
        due(4, x.undo());
        due(4, x.fault());
        due(3, x.undo());
        due(NONE, x.fault());
        due(1, x.count(0));
        due(2, x.good(0, COAT));
        for (int left = 2; left >= 0; left--) due(left, x.undo());
        due(NOT, x.undo());
        due(0, x.count(1));
    }

    private static void fault() {
        promise(5);
        due(NONE, faultOf(""));
        due(0, faultOf(";"));
        due(0, faultOf("x12"));
        due(1, faultOf("1"));
        due(2, faultOf("12"));
        due(NONE, faultOf("123"));
        due(3, faultOf("1234"));
        due(4, faultOf("123;"));
        due(4, faultOf("123;;"));
        due(5, faultOf("123;4"));
        due(6, faultOf("123;45"));
        due(NONE, faultOf("000;999"));
        due(6, faultOf("123;45x"));
        due(2, faultOf("12;456"));
        due(1, faultOf("1/3"));
        due(1, faultOf("1:3;45"));
        due(3, faultOf("123,456"));
        due(19, faultOf("111;111;111;111;1111"));
        due(NONE, faultOf("111;111;111;111;111;111"));
        due(22, faultOf("111;111;111;111;111;11"));
        due(22, faultOf("111;111;111;111;111;11;"));
        due(2, heirs("12\0").fault());
        due(BAD, heirs("123;").good(0, 0));
    }

    private static void good() {
        promise(6);
        DogJudge x = heirs("109;238");
        due(1, x.good(0, SAUSAGE));
        due(0, x.good(0, COAT));
        due(9, x.good(0, STICK));
        due(2, x.good(1, SAUSAGE));
        due(3, x.good(1, COAT));
        due(8, x.good(1, STICK));
        due(BAD, x.good(2, 0));
        due(BAD, x.good(-1, 0));
        due(BAD, x.good(0, -1));
        due(BAD, x.good(0, 3));
        due(BAD, x.good(MOST, LEAST));
        due(BAD, new DogJudge().good(0, 0));
        x.undo();
        due(BAD, x.good(0, SAUSAGE));
        x.type('7');
        due(7, x.good(1, STICK));
    }

    private static void taste() {
        promise(7);
        DogJudge x = heirs("111");
        x.visit(0, 0, STICK);
        due(1, x.taste(0, STICK, 9));
        due(9, x.taste(0, STICK, 0));
        due(0, x.taste(0, STICK, 4));
        due(1, x.taste(1, STICK, 2));
        due(1, x.taste(0, COAT, 7));
        due(4, x.liking(0, 0, 0));
        due(2, x.liking(1, 0, 0));
        due(BAD, x.taste(-1, 0, 0));
        due(BAD, x.taste(2, 0, 0));
        due(BAD, x.taste(0, -1, 0));
        due(BAD, x.taste(0, 3, 0));
        due(BAD, x.taste(0, 2, -1));
        due(BAD, x.taste(0, 2, 10));
        due(4, x.taste(0, STICK, 4));
    }

    private static void set() {
        promise(8);
        DogJudge x = new DogJudge();
        int[] at = {1, 3, 0, 0, 2};
        for (int what = 0; what < 5; what++) {
            due(at[what], x.set(what, 9));
            due(9, x.set(what, 0));
            due(0, x.set(what, 7));
            due(BAD, x.set(what, -1));
            due(BAD, x.set(what, LEAST));
            if (what != 3) due(BAD, x.set(what, 10));
            due(7, x.set(what, 7));
        }
        due(7, x.set(3, ALL_DAYS));
        due(BAD, x.set(3, ALL_DAYS + 1));
        due(BAD, x.set(3, MOST));
        due(ALL_DAYS, x.set(3, 10));
        due(BAD, x.set(-1, 0));
        due(BAD, x.set(5, 0));
        due(7, x.count(5));
        due(7, x.count(6));
        due(10, x.count(7));
    }

    private static void visit() {
        promise(9);
        DogJudge x = heirs("111");
        due(BAD, x.visit(-1, 0, 0));
        due(BAD, x.visit(30, 0, 0));
        due(BAD, x.visit(0, -1, 0));
        due(BAD, x.visit(0, 6, 0));
        due(BAD, x.visit(0, 0, -1));
        due(BAD, x.visit(0, 0, 3));
        due(0, x.count(2));
        due(1, x.visit(29, 0, COAT));
        due(2, x.visit(0, 5, STICK));
        due(1, x.count(3));
        due(0, x.liking(0, 28, 0));
        due(1, x.liking(0, 29, 0));
        for (int i = 3; i <= 24; i++) due(i, x.visit(i, 0, SAUSAGE));
        due(FULL, x.visit(0, 0, 0));
        due(BAD, x.visit(0, 0, 3));
        due(24, x.count(2));
    }

    private static void back() {
        promise(10);
        DogJudge x = heirs("123");
        due(NOT, x.back());
        come(x, 5, 0, STICK, 1, 0, COAT, 3, 5, SAUSAGE, 1, 0, STICK);
        due(5, x.liking(0, 1, 0));
        due(3, x.back());
        due(2, x.liking(0, 1, 0));
        due(2, x.back());
        due(1, x.back());
        due(0, x.liking(0, 4, 0));
        due(3, x.liking(0, 5, 0));
        due(2, x.visit(4, 0, COAT));
        due(2, x.liking(0, 4, 0));
        due(1, x.back());
        due(0, x.back());
        due(NOT, x.back());
        due(0, x.liking(0, 29, 0));
        DogJudge y = come(heirs("123"), 5, 0, STICK, 6, 0, COAT, 7, 0, STICK, 1, 0, COAT);
        due(3, y.back());
        due(0, y.liking(0, 4, 0));
        due(3, y.liking(0, 5, 0));
        due(5, y.liking(0, 6, 0));
        due(8, y.liking(0, 7, 0));
        for (int i = 4; i <= 24; i++) y.visit(24 - i, 0, SAUSAGE);
        for (int left = 23; left >= 3; left--) due(left, y.back());
        due(8, y.liking(0, 29, 0));
    }

    private static void read() {
        promise(11);
        DogJudge x = heirs("123;456");
        due(BAD, x.read(-1));
        due(BAD, x.read(4));
        due(0, x.count(8));
        due(NULL, x.read(0));
        due(1, x.count(8));
        items(x, 0, 0, 0, 1, 2, 3, 0, 1, 9, 9);
        due(2, x.read(0));
        due(2, x.count(2));
        due(6, x.liking(0, 0, 1));
        due(2, x.liking(0, 3, 0));
        items(x, 1, 2, 0, 0, 0, 30, 0, 0, 1, 0, 0);
        due(1, x.read(1));
        due(3, x.count(2));
        items(x, 1, 1, -1, 0, 0);
        due(0, x.read(1));
        x.sheet(2, 0, 0);
        due(0, x.read(2));
        x.sheet(2, 0, 2);
        due(0, x.read(2));
        x.sheet(2, 2, 48);
        due(16, x.read(2));
        due(19, x.count(2));
        due(5, x.read(2));
        due(24, x.count(2));
        due(0, x.read(2));
        due(1, x.count(8));
    }

    private static void liking() {
        promise(12);
        DogJudge x = come(heirs("555;222"), 7, 1, SAUSAGE, 0, 0, SAUSAGE, 0, 1, SAUSAGE, 3, 0, SAUSAGE);
        due(10, x.liking(0, 0, 0));
        due(2, x.liking(0, 0, 1));
        due(10, x.liking(0, 2, 0));
        due(14, x.liking(0, 3, 0));
        due(2, x.liking(0, 6, 1));
        due(5, x.liking(0, 7, 1));
        due(5, x.liking(1, 29, 1));
        x.taste(0, SAUSAGE, 3);
        due(30, x.liking(0, 0, 0));
        due(10, x.liking(1, 0, 0));
        x.taste(0, SAUSAGE, 1);
        x.set(0, 9);
        due(10, x.liking(0, 3, 0));
        due(2, x.liking(0, 7, 1));
        x.set(0, 0);
        x.set(1, 2);
        due(20, x.liking(0, 3, 0));
        x.set(1, 4);
        due(15, x.liking(0, 3, 0));
        due(4, x.liking(0, 7, 1));
        x.set(0, 1);
        x.set(1, 3);
        x.set(2, 2);
        due(10, x.liking(0, 0, 0));
        due(8, x.liking(0, 1, 0));
        due(0, x.liking(0, 1, 1));
        due(6, x.liking(0, 2, 0));
        due(10, x.liking(0, 3, 0));
        due(2, x.liking(0, 7, 0));
        due(3, x.liking(0, 7, 1));
        due(0, x.liking(0, 9, 0));
        x.set(3, 1 | 1 << 1);
        due(0, x.liking(0, 2, 0));
        due(10, x.liking(0, 3, 0));
        x.set(2, 0);
        x.set(3, 1 << 3);
        due(10, x.liking(0, 3, 0));
        due(10, x.liking(0, 7, 0));
        due(5, x.liking(0, 7, 1));
        due(BAD, x.liking(2, 0, 0));
        due(BAD, x.liking(-1, 0, 0));
        due(BAD, x.liking(0, 30, 0));
        due(BAD, x.liking(0, -1, 0));
        due(BAD, x.liking(0, 0, 2));
        due(BAD, x.liking(0, 0, -1));
        hungerZero();
    }

    /** With no hunger a sausage on each day is twice liked, but the second of one day is not. */
    private static void hungerZero() {
        DogJudge x = come(heirs("300;400;000"), 0, 0, SAUSAGE, 1, 0, SAUSAGE, 1, 1, SAUSAGE);
        x.set(1, 0);
        due(11, x.liking(0, 1, 0));
        due(4, x.liking(0, 1, 1));
        // What is not good is brought all the same; what nobody there brings is not.
        DogJudge y = come(heirs("300;400;000"), 0, 2, SAUSAGE, 0, 3, SAUSAGE, 0, 1, SAUSAGE, 2, 1, COAT, 3, 1, SAUSAGE);
        due(4, y.liking(0, 0, 1));
        due(8, y.liking(0, 3, 1));
        y.set(2, 1);
        due(3, y.liking(0, 1, 1));
        due(3, y.liking(0, 2, 1));
    }

    private static void found() {
        promise(13);
        DogJudge x = come(heirs("111;111;111"), 2, 2, COAT);
        due(NONE, x.found(0, 0));
        due(NONE, x.found(0, 1));
        due(2, x.found(0, 2));
        due(2, x.found(1, 29));
        come(x, 3, 1, COAT);
        due(2, x.found(0, 3));
        come(x, 4, 0, COAT, 4, 0, STICK, 4, 1, STICK);
        due(0, x.found(0, 4));
        x.taste(1, STICK, 0);
        due(2, x.found(1, 4));
        x.set(2, 1);
        due(2, x.found(0, 2));
        due(1, x.found(0, 3));
        due(1, x.found(0, 4));
        due(1, x.found(0, 5));
        due(NONE, x.found(0, 6));
        due(BAD, x.found(-1, 0));
        due(BAD, x.found(2, 0));
        due(BAD, x.found(0, -1));
        due(BAD, x.found(0, 30));
        x.type(';');
        due(NONE, x.found(0, 4));
    }

    private static void share() {
        promise(14);
        DogJudge x = come(heirs("321;153;999"), 0, 0, SAUSAGE, 0, 1, COAT, 0, 1, STICK);
        due(3, x.share(0, 0, 0));
        due(7, x.share(0, 0, 1));
        due(4, x.share(29, 1, 0));
        due(7, x.share(29, 1, 1));
        due(0, x.share(0, 2, 0));
        due(1, x.share(0, 2, 1));
        x.taste(1, COAT, 9);
        due(4, x.share(0, 1, 0));
        due(LONG_BAD, x.share(-1, 0, 0));
        due(LONG_BAD, x.share(30, 0, 0));
        due(LONG_BAD, x.share(0, -1, 0));
        due(LONG_BAD, x.share(0, 3, 0));
        due(LONG_BAD, x.share(0, 0, -1));
        due(LONG_BAD, x.share(0, 0, 2));
        x.set(3, 1);
        due(LONG_NOT, x.share(0, 0, 0));
        due(LONG_NOT, x.share(0, 0, 1));
        due(LONG_BAD, x.share(0, 0, 2));
        due(LONG_BAD, new DogJudge().share(0, 0, 0));
        due(0, x.count(8));
    }

    private static void quarrel() {
        promise(15);
        DogJudge x = come(heirs("010;030"), 0, 0, COAT, 1, 1, COAT);
        due(NONE, x.quarrel(0));
        due(NONE, x.quarrel(1));
        come(x, 2, 0, COAT);
        due(2, x.quarrel(0));
        due(0, x.quarrel(1));
        come(x, 2, 5, COAT);
        due(2, x.quarrel(0));
        come(x, 2, 0, COAT);
        due(NONE, x.quarrel(0));
        come(x, 0, 0, COAT);
        due(2, x.quarrel(0));
        x.set(3, 1 << 2);
        due(NONE, x.quarrel(0));
        x.set(3, 1);
        due(NONE, x.quarrel(1));
        due(BAD, x.quarrel(-1));
        due(BAD, x.quarrel(2));
        firstOfLikeDays();
        // Days on which nothing counts are not alike, though nobody is found behind the first.
        due(NONE, come(heirs("111"), 3, 0, COAT, 1, 4, COAT, 5, 4, COAT).quarrel(0));
        // The order of a day is all one: a coat and a stick are a stick and a coat.
        DogJudge z = come(heirs("011;055"), 0, 0, COAT, 0, 0, STICK, 4, 1, COAT, 9, 0, STICK, 9, 0, COAT);
        due(9, z.quarrel(0));
        due(0, z.quarrel(1));
    }

    private static void firstOfLikeDays() {
        // Day 0: 4 to 4, the least; day 1 like it, but by habit: 5 to 7.
        DogJudge y = come(heirs("200;004"), 0, 0, SAUSAGE, 0, 1, STICK, 1, 0, SAUSAGE, 1, 1, STICK);
        due(1, y.quarrel(0));
        due(0, y.quarrel(1));
        DogJudge x = heirs("010;030");
        x.set(0, 0);
        come(x, 0, 0, COAT, 1, 0, COAT, 2, 1, COAT, 3, 0, COAT, 4, 0, COAT);
        due(3, x.quarrel(0));
        due(0, x.quarrel(1));
        x.set(3, 1);
        due(3, x.quarrel(0));
        due(1, x.quarrel(1));
    }

    private static void dissent() {
        promise(16);
        DogJudge x = come(heirs("090;009"), 0, 0, COAT, 0, 1, STICK);
        due(0, x.dissent());
        x.taste(1, STICK, 2);
        due(ALL_DAYS, x.dissent());
        come(x, 3, 0, COAT, 5, 0, COAT);
        due(31, x.dissent());
        due(0, new DogJudge().dissent());
        DogJudge y = come(heirs("010"), 2, 0, COAT);
        y.taste(1, COAT, 0);
        due(ALL_DAYS - 3, y.dissent());
    }

    private static void changes() {
        promise(17);
        due(0, new DogJudge().changes());
        DogJudge x = heirs("010;030");
        x.set(0, 0);
        come(x, 0, 0, COAT);
        due(1, x.changes());
        come(x, 1, 0, COAT, 2, 1, COAT, 3, 0, COAT);
        due(2, x.changes());
        come(x, 4, 0, COAT);
        due(3, x.changes());
        x.taste(1, COAT, 0);
        due(3, x.changes());
        DogJudge y = come(heirs("010"), 3, 0, COAT);
        y.set(2, 1);
        due(2, y.changes());
        come(y, 29, 0, COAT);
        due(2, y.changes());
        y.set(0, 0);
        due(3, y.changes());
    }

    private static void suit() {
        promise(18);
        DogJudge x = come(heirs("010;030"), 0, 1, COAT);
        due(0, x.suit(1, 0, NONE));
        due(NONE, x.suit(1, 0, 0));
        due(NONE, x.suit(0, 0, NONE));
        due(NONE, x.suit(0, 9, 0));
        x.set(0, 0);
        due(3, x.suit(0, 0, NONE));
        for (int i = 0; i < 3; i++) due(1, x.suit(0, 0, i));
        due(3, x.suit(0, 9, NONE));
        due(BAD, x.suit(2, 0, 0));
        due(BAD, x.suit(-1, 0, 0));
        due(BAD, x.suit(0, -1, 0));
        due(BAD, x.suit(0, 10, 0));
        due(BAD, x.suit(0, 0, -2));
        due(BAD, x.suit(0, 0, 3));
        due(BAD, new DogJudge().suit(0, 0, NONE));
        // With all 24 visits told, one more may still win.
        DogJudge y = heirs("050;001");
        for (int i = 0; i < 24; i++) y.visit(29, 0, COAT);
        due(1, y.suit(1, 9, NONE));
        due(2, y.suit(1, 9, 0));
        due(24, y.count(2));
    }

    /** "200;300", heir 0 with a sausage on day 0 (4): heir 1 gets 3 for one up to day 3, 6 on day 4. */
    private static void suitByDays() {
        DogJudge x = come(heirs("200;300"), 0, 0, SAUSAGE);
        x.taste(1, SAUSAGE, 0);
        due(1, x.suit(1, 5, NONE));
        due(12, x.suit(1, 5, 0));
        due(NONE, x.suit(1, 5, 1));
        due(2, x.suit(1, 3, NONE));
        due(0, x.suit(1, 3, 0));
        due(0, x.suit(1, 3, 1));
        due(NONE, x.suit(1, 3, 2));
        due(0, x.suit(0, 9, NONE));
        x.set(3, 1);
        due(NONE, x.suit(1, 0, NONE));
        due(1, x.suit(1, 1, NONE));
        due(3, x.suit(1, 1, 0));
        x.set(3, 0);
        x.set(0, 9);
        // A coat between two sausages breaks the habit; it must come on the first one's day.
        due(3, x.suit(1, 3, NONE));
        due(0, x.suit(1, 3, 0));
        due(1, x.suit(1, 3, 1));
        due(3, x.suit(1, 3, 2));
        due(12, x.suit(1, 9, 0));
        // On day 4 a stick (2) falls to 1, like the coat of day 5, but was found ahead of it; earlier ones fall further.
        DogJudge y = come(heirs("010;002"), 5, 0, COAT);
        y.set(2, 1);
        due(1, y.suit(1, 5, NONE));
        due(14, y.suit(1, 5, 0));
        due(0, y.suit(0, 5, NONE));
        // Coat 2, stick 2 and a coat of the next day 2 are more than 5; two coats of one day are 3 alone.
        DogJudge w = come(heirs("005;022"), 0, 0, STICK);
        due(NONE, w.suit(1, 0, NONE));
        due(3, w.suit(1, 1, NONE));
        due(1, w.suit(1, 1, 0));
        due(2, w.suit(1, 1, 1));
        due(4, w.suit(1, 1, 2));
    }

    private static void replies() {
        promise(19);
        DogJudge x = heirs("200;300");
        due(1, x.replies(0, 1, 1, 0));
        due(0, x.replies(0, 1, 1, 1));
        due(1, x.replies(0, 1, 2, 0));
        due(0, x.replies(0, 1, 2, 1));
        DogJudge y = heirs("200;500");
        due(0, y.replies(0, 1, 2, 0));
        due(NONE, y.replies(0, 1, 2, 1));
        due(0, y.replies(0, 1, 3, 0));
        due(1, y.replies(1, 0, 4, 0));
        DogJudge z = heirs("020;005");
        due(1, z.replies(0, 1, 1, 1));
        due(2, z.replies(1, 0, 1, 1));
        come(z, 0, 1, STICK);
        due(0, z.replies(0, 1, 1, 0));
        due(NONE, z.replies(0, 1, 1, 1));
        due(0, z.replies(1, 0, 1, 1));
        z.set(3, 1);
        due(0, z.replies(1, 0, 1, 0));
        // Asleep on day 1, the other one can do nothing: 4 stays the most.
        y.set(3, 2);
        due(1, y.replies(0, 1, 2, 0));
        due(BAD, x.replies(0, 0, 1, 0));
        due(BAD, x.replies(-1, 0, 1, 0));
        due(BAD, x.replies(2, 0, 1, 0));
        due(BAD, x.replies(0, -1, 1, 0));
        due(BAD, x.replies(0, 2, 1, 0));
        due(BAD, x.replies(0, 1, 0, 0));
        due(BAD, x.replies(0, 1, 5, 0));
        due(BAD, x.replies(0, 1, 1, -1));
        due(BAD, x.replies(0, 1, 1, 2));
        due(BAD, heirs("111").replies(0, 1, 1, 0));
        // A sausage ahead of the other's: told behind all others of the day, so it is only 3.
        DogJudge w = come(heirs("300;200"), 0, 1, SAUSAGE);
        due(0, w.replies(0, 1, 1, 0));
        // By the other one's bringing nothing alone (4) heir 2 is found behind day 1 (6), and stays on day 2 (6 to 6).
        DogJudge v = come(heirs("060;090;060"), 0, 1, COAT, 1, 2, COAT, 2, 2, STICK);
        v.set(0, 9);
        v.set(2, 5);
        due(0, v.replies(0, 1, 3, 0));
        due(NONE, v.replies(0, 1, 3, 1));
        v.visit(1, 1, COAT);
        due(1, v.replies(0, 1, 3, 0));
        v.taste(1, COAT, 0);
        due(1, v.replies(0, 1, 3, 0));
        // Found without more: a second coat grows by nothing, and any thing does.
        due(0, come(heirs("010;090"), 0, 0, COAT).replies(0, 1, 1, 1));
    }

    private static void seen() {
        promise(20);
        DogJudge x = new DogJudge();
        due(BAD, x.seen(-1, 0));
        due(BAD, x.seen(30, 0));
        due(BAD, x.seen(0, -2));
        due(BAD, x.seen(0, 6));
        due(0, x.count(4));
        due(1, x.seen(0, NONE));
        due(2, x.seen(29, 5));
        for (int i = 3; i <= 8; i++) due(i, x.seen(i, i % 6));
        due(FULL, x.seen(0, 0));
        due(BAD, x.seen(0, 6));
        due(8, x.count(4));
    }

    private static void forget() {
        promise(21);
        DogJudge x = new DogJudge();
        due(0, x.forget());
        x.seen(0, 0);
        x.seen(0, 1);
        due(0, x.tastes(0));
        due(2, x.forget());
        due(0, x.count(4));
        due(1000, x.tastes(0));
        due(1, x.seen(0, NONE));
        due(1000, x.tastes(0));
        due(1, x.forget());
        due(0, x.forget());
    }

    private static void tastes() {
        promise(22);
        DogJudge x = come(heirs("111;111"), 0, 0, COAT, 1, 1, STICK);
        due(1000, x.tastes(0));
        due(0, x.tastes(1));
        x.seen(0, 0);
        due(900, x.tastes(0));
        due(10, x.tastes(1));
        // More for the stick than for the coat: of 1 .. 9 and 1 .. 9 the 36 rows above, by 10.
        x.seen(1, 1);
        due(360, x.tastes(0));
        due(12, x.tastes(1));
        x.seen(29, 0);
        due(0, x.tastes(0));
        due(NONE, x.tastes(1));
        x.forget();
        x.seen(0, NONE);
        due(100, x.tastes(0));
        due(0, x.tastes(1));
        x.seen(1, NONE);
        due(10, x.tastes(0));
        x.seen(0, NONE);
        due(10, x.tastes(0));
        x.forget();
        x.seen(0, 5);
        due(0, x.tastes(0));
        due(BAD, x.tastes(-1));
        due(BAD, x.tastes(2));
        x.forget();
        x.seen(1, 1);
        due(450, x.tastes(0));
        due(1, x.tastes(1));
        due(1, x.taste(0, COAT, 5));
        due(450, x.tastes(0));
        x.set(3, 1);
        due(900, x.tastes(0));
    }

    private static void tells() {
        promise(23);
        // Each thing is liked by 900 of the tastes where it is good at all.
        due(0, heirs("111").tells(0, 0));
        due(1, heirs("011").tells(0, 0));
        due(2, heirs("001").tells(0, 0));
        due(0, heirs("000").tells(0, 0));
        // Against a coat (5): a coat (5) is found never, a stick by 450 of the tastes (nobody by 10).
        DogJudge x = come(heirs("050;055"), 0, 0, COAT);
        due(2, x.tells(0, 1));
        due(2, x.tells(3, 1));
        x.set(3, 1);
        due(0, x.tells(0, 1));
        x.set(3, 0);
        // What was seen leaves only the stick untold: coat 0 is known.
        DogJudge y = come(heirs("011;000"), 0, 0, COAT);
        y.seen(0, NONE);
        due(2, y.tells(1, 0));
        // By heir 5's sausage it is found by 900 of the tastes, by its stick by 450 and heir 4 by 540.
        due(2, come(heirs("000;000;000;000;010;901"), 0, 4, COAT).tells(0, 5));
        // Where nothing explains what was seen, each thing is as good.
        y.seen(0, 0);
        due(0, y.tells(1, 0));
        due(BAD, x.tells(-1, 0));
        due(BAD, x.tells(30, 0));
        due(BAD, x.tells(0, -1));
        due(BAD, x.tells(0, 2));
        due(BAD, new DogJudge().tells(0, 0));
        due(1, x.count(2));
    }

    private static void trainer() {
        promise(24);
        due(64, new DogJudge().trainer());
        DogJudge x = heirs("111;111");
        due(67, x.trainer());
        x.seen(0, 1);
        due(2, x.trainer());
        x.taste(1, COAT, 9);
        x.set(4, 0);
        due(0, x.trainer());
        x.forget();
        x.seen(0, NONE);
        due(67, x.trainer());
        x.set(4, 1);
        due(64, x.trainer());
        x.forget();
        x.seen(5, 1);
        x.set(2, 9);
        x.set(3, 1 << 5);
        due(2, x.trainer());
        x.set(3, 0);
        come(x, 5, 0, COAT);
        // Heir 1 by night 1 against heir 0 by a coat 1: it was found ahead, so it stays.
        due(2, x.trainer());
        x.forget();
        x.seen(5, 0);
        due(65, x.trainer());
        x.seen(4, NONE);
        due(64, x.trainer());
        x.seen(4, 0);
        due(0, x.trainer());
        // Night by night it grows: behind day 3 it is 8.
        DogJudge y = come(heirs("070;000"), 0, 0, COAT);
        y.seen(2, 0);
        due(67, y.trainer());
        y.seen(3, 1);
        due(2, y.trainer());
        y.set(4, 9);
        due(0, y.trainer());
    }

    private static void chance() {
        promise(25);
        DogJudge x = come(heirs("111;111"), 0, 0, COAT);
        x.taste(1, COAT, 0);
        due(3, x.chance(4, 0, 0, 0));
        due(4, x.chance(4, 0, 0, 1));
        due(0, x.chance(4, 1, 9, 0));
        due(1, x.chance(4, 1, 9, 1));
        due(1, x.chance(0, 0, 0, 0));
        due(1, x.chance(0, 0, 0, 1));
        due(0, x.chance(16, 0, 0, 0));
        due(1, x.chance(16, 0, 0, 1));
        x.set(3, 1);
        due(3, x.chance(4, 0, 5, 0));
        come(x, 1, 0, COAT);
        due(15, x.chance(4, 0, 1, 0));
        due(16, x.chance(4, 0, 1, 1));
        due(3, x.chance(4, 0, 0, 0));
        for (int day = 2; day < 10; day++) x.visit(day, 0, COAT);
        due(1023, x.chance(8, 0, 9, 0));
        due(1024, x.chance(8, 0, 9, 1));
        due((1L << 40) - 1, x.chance(1, 0, 9, 0));
        due(1L << 40, x.chance(1, 0, 9, 1));
        due(LONG_BAD, x.chance(-1, 0, 0, 0));
        due(LONG_BAD, x.chance(17, 0, 0, 0));
        due(LONG_BAD, x.chance(0, -1, 0, 0));
        due(LONG_BAD, x.chance(0, 2, 0, 0));
        due(LONG_BAD, x.chance(0, 0, -1, 0));
        due(LONG_BAD, x.chance(0, 0, 10, 0));
        due(LONG_BAD, x.chance(0, 0, 0, -1));
        due(LONG_BAD, x.chance(0, 0, 0, 2));
        due(LONG_BAD, new DogJudge().chance(0, 0, 0, 0));
        // Fades go on while it sleeps: found behind day 1 only if awake then.
        DogJudge y = come(heirs("010"), 0, 0, COAT, 1, 0, COAT);
        y.set(2, 1);
        y.set(0, 0);
        due(3, y.chance(4, 0, 1, 0));
        due(4, y.chance(4, 0, 1, 1));
    }

    private static void heard() {
        promise(26);
        DogJudge x = come(heirs("100;030"), 0, 1, COAT);
        x.taste(1, SAUSAGE, 0);
        due(1, x.heard(4, 0, SAUSAGE, 2));
        due(0, x.heard(4, 0, SAUSAGE, 0));
        due(0, x.heard(0, 0, SAUSAGE, 2));
        due(0, x.heard(16, 0, SAUSAGE, 9));
        due(0, x.heard(4, 0, STICK, 9));
        due(1, x.count(2));
        // On day 0 heir 1's second coat is no better than the first; on another day it is heard twice.
        due(1, x.heard(4, 1, COAT, 3));
        x.set(3, 2);
        due(1, x.heard(4, 1, COAT, 3));
        x.set(3, 0);
        // By fading what was brought early is forgotten.
        DogJudge y = heirs("020");
        y.set(2, 1);
        due(8, y.heard(4, 0, COAT, 9));
        due(0, y.heard(4, 0, COAT, 1));
        due(BAD, x.heard(-1, 0, 0, 0));
        due(BAD, x.heard(17, 0, 0, 0));
        due(BAD, x.heard(0, -1, 0, 0));
        due(BAD, x.heard(0, 2, 0, 0));
        due(BAD, x.heard(0, 0, -1, 0));
        due(BAD, x.heard(0, 0, 3, 0));
        due(BAD, x.heard(0, 0, 0, -1));
        due(BAD, x.heard(0, 0, 0, 10));
        due(BAD, new DogJudge().heard(0, 0, 0, 0));
    }

    /** Seed 0 draws heir, thing: 0 stick, 0 sausage, 0 sausage, 1 sausage, 0 coat, 1 coat. */
    private static void weeks() {
        promise(27);
        DogJudge x = heirs("123;456");
        for (int thing = 0; thing < 3; thing++) x.taste(1, thing, 0);
        due(0, x.weeks(0, 1, NONE));
        due(0, x.weeks(0, 5, NONE));
        due(1, x.weeks(0, 6, NONE));
        due(5, x.weeks(0, 6, 0));
        due(1, x.weeks(0, 6, 1));
        // Seed -1 draws 1 stick first: upper bits are a number from 0 on.
        due(1, x.weeks(-1, 1, NONE));
        due(0, x.weeks(LEAST, 1, NONE));
        due(4, heirs("111;111;111;111;111;111").weeks(987654321, 1, NONE));
        due(1, heirs("111;111;111;111;111;111").weeks(-123456789, 1, NONE));
        due(5, heirs("111;111;111;111;111;111").weeks(2147483647, 1, NONE));
        due(0, heirs("111;111;111;111;111;111").weeks(1048576, 1, NONE));
        due(0, x.count(2));
        // Seed 5 draws 1 stick, 0 stick: also for a day on which it sleeps.
        x.set(3, 1);
        due(NONE, x.weeks(5, 1, NONE));
        due(0, x.weeks(5, 2, NONE));
        due(1, x.weeks(5, 2, 0));
        // Seed 1 draws 0 sausage: behind the one that is told.
        due(1, come(heirs("900;500"), 0, 1, SAUSAGE).weeks(1, 1, NONE));
        due(BAD, x.weeks(0, 0, NONE));
        due(BAD, x.weeks(0, 31, NONE));
        due(BAD, x.weeks(0, LEAST, NONE));
        due(BAD, x.weeks(0, 1, -2));
        due(BAD, x.weeks(0, 1, 2));
        due(NONE, new DogJudge().weeks(3, 30, NONE));
        due(BAD, new DogJudge().weeks(3, 30, 0));
        due(30, heirs("111").weeks(9, 30, 0));
    }

    private static void sheet() {
        promise(28);
        DogJudge x = new DogJudge();
        due(0, x.sheet(0, 0, 0));
        due(48, x.sheet(3, 2, 48));
        due(BAD, x.sheet(-1, 0, 1));
        due(BAD, x.sheet(4, 0, 1));
        due(BAD, x.sheet(0, -1, 1));
        due(BAD, x.sheet(0, 3, 1));
        due(BAD, x.sheet(0, 0, 49));
        due(BAD, x.sheet(4, 0, -1));
        due(BAD, x.sheet(0, 3, -1));
        due(0, x.count(8));
        due(SIZE, x.sheet(0, 0, -1));
        due(SIZE, x.sheet(3, 1, LEAST));
        due(5, x.count(8));
        x.put(3, 2, 47, 77);
        x.put(3, 2, 0, 66);
        due(77, x.get(3, 2, 47));
        due(48, x.sheet(3, 2, 48));
        due(0, x.get(3, 2, 47));
        due(0, x.get(3, 2, 0));
        due(2, x.sheet(3, 1, 2));
        due(2, x.lose(3));
        due(0, x.lose(0));
    }

    private static void lose() {
        promise(29);
        DogJudge x = items(new DogJudge(), 2, 1, 4, 5, 6);
        due(BAD, x.lose(-1));
        due(BAD, x.lose(4));
        due(0, x.count(8));
        due(3, x.lose(2));
        due(NULL, x.lose(2));
        due(1, x.count(8));
        due(NULL, x.put(2, 1, 0, 0));
        due(3, x.sheet(2, 1, 3));
        due(0, x.get(2, 1, 1));
    }

    private static void put() {
        promise(30);
        DogJudge x = new DogJudge();
        for (int form = 0; form < 3; form++) x.sheet(form, form, 3);
        due(1, x.put(0, 0, 0, 200));
        due(-56, x.get(0, 0, 0));
        due(1, x.put(0, 0, 2, -129));
        due(127, x.get(0, 0, 2));
        due(1, x.put(1, 1, 0, 200));
        due(200, x.get(1, 1, 0));
        due(1, x.put(1, 1, 1, 0x18000));
        due(-32768, x.get(1, 1, 1));
        due(1, x.put(2, 2, 1, LEAST));
        due(LEAST, x.get(2, 2, 1));
        due(0, x.get(2, 2, 0));
        due(BAD, x.put(-1, 0, 0, 0));
        due(BAD, x.put(4, 0, 0, 0));
        due(BAD, x.put(0, -1, 0, 0));
        due(BAD, x.put(0, 3, 0, 0));
        due(0, x.count(8));
        due(NULL, x.put(3, 0, -1, 0));
        due(1, x.count(8));
        due(CAST, x.put(0, 1, -1, 0));
        due(3, x.count(8));
        due(INDEX, x.put(0, 0, -1, 0));
        due(2, x.count(8));
        due(INDEX, x.put(0, 0, 3, 0));
        due(INDEX, x.put(0, 0, MOST, 0));
        due(-56, x.get(0, 0, 0));
    }

    private static void get() {
        promise(31);
        DogJudge x = items(new DogJudge(), 1, 1, 7, -8);
        due(7, x.get(1, 1, 0));
        due(-8, x.get(1, 1, 1));
        due(LEAST, x.get(-1, 1, 0));
        due(LEAST, x.get(4, 1, 0));
        due(LEAST, x.get(1, -1, 0));
        due(LEAST, x.get(1, 3, 0));
        due(0, x.count(8));
        due(LEAST, x.get(0, 1, 0));
        due(1, x.count(8));
        due(LEAST, x.get(1, 1, 2));
        due(2, x.count(8));
        due(LEAST, x.get(1, 0, 2));
        due(3, x.count(8));
        due(LEAST, x.get(1, 1, LEAST));
        due(2, x.count(8));
        due(7, x.get(1, 1, 0));
        due(2, x.count(8));
    }

    private static void copy() {
        promise(32);
        DogJudge x = items(items(new DogJudge(), 0, 0, 1, 2, 3, 4, 5), 1, 0, 9, 9, 9);
        due(1, x.copy(0, 0, 0, 1, 4));
        int[] moved = {1, 1, 2, 3, 4};
        for (int i = 0; i < 5; i++) due(moved[i], x.get(0, 0, i));
        due(1, x.copy(0, 2, 0, 0, 3));
        int[] back = {2, 3, 4, 3, 4};
        for (int i = 0; i < 5; i++) due(back[i], x.get(0, 0, i));
        due(1, x.copy(0, 1, 1, 1, 2));
        due(9, x.get(1, 0, 0));
        due(3, x.get(1, 0, 1));
        due(4, x.get(1, 0, 2));
        due(1, x.copy(0, 5, 1, 3, 0));
        due(BAD, x.copy(-1, 0, 3, 0, 0));
        due(BAD, x.copy(0, 0, 4, 0, 0));
        due(0, x.count(8));
        due(NULL, x.copy(0, -1, 2, 0, 0));
        due(NULL, x.copy(2, 0, 0, 0, 0));
        due(1, x.count(8));
        x.sheet(2, 1, 5);
        due(STORE, x.copy(0, 0, 2, 0, -1));
        due(4, x.count(8));
        due(INDEX, x.copy(0, -1, 1, 0, 1));
        due(INDEX, x.copy(0, 0, 1, -1, 1));
        due(INDEX, x.copy(0, 0, 1, 0, -1));
        due(INDEX, x.copy(0, 6, 1, 0, 0));
        due(INDEX, x.copy(0, 0, 1, 4, 0));
        due(INDEX, x.copy(0, 0, 1, 0, 4));
        due(INDEX, x.copy(0, 3, 1, 0, 3));
        due(INDEX, x.copy(1, 1, 0, 0, 3));
        due(INDEX, x.copy(0, MOST, 1, 0, MOST));
        due(INDEX, x.copy(0, 1, 1, 1, MOST));
        due(2, x.count(8));
        due(9, x.get(1, 0, 0));
        due(1, x.copy(1, 0, 0, 2, 3));
        due(9, x.get(0, 0, 2));
        due(1, x.copy(0, 0, 0, 0, 5));
        due(1, x.copy(0, 0, 1, 0, 3));
        due(2, x.get(1, 0, 0));
        due(9, x.get(1, 0, 2));
    }

    private static void write() {
        promise(33);
        DogJudge x = come(heirs("010;030"), 1, 0, COAT, 2, 1, COAT);
        x.taste(1, COAT, 0);
        due(BAD, x.write(-1, 0));
        due(BAD, x.write(2, 0));
        due(BAD, x.write(0, -1));
        due(BAD, x.write(0, 4));
        due(BAD, x.write(2, 0));
        due(0, x.count(8));
        due(NULL, x.write(0, 0));
        due(1, x.count(8));
        items(x, 0, 0, 7, 7, 7, 7);
        due(4, x.write(0, 0));
        int[] found = {NONE, 0, 1, 1};
        for (int i = 0; i < 4; i++) due(found[i], x.get(0, 0, i));
        x.sheet(1, 2, 48);
        x.put(1, 2, 30, 5);
        due(30, x.write(0, 1));
        due(1, x.get(1, 2, 29));
        due(5, x.get(1, 2, 30));
        due(30, x.write(1, 1));
        due(NONE, x.get(1, 2, 29));
        x.sheet(2, 1, 0);
        due(0, x.write(0, 2));
        due(1, x.count(8));
    }

    private static void count() {
        promise(34);
        DogJudge x = come(heirs("111;222"), 0, 0, 0, 1, 1, 1, 1, 2, 2, 4, 0, 0);
        x.set(0, 4);
        x.set(1, 5);
        x.set(3, 16);
        x.seen(3, 4);
        x.put(0, 0, 0, 0);
        int[] counts = {2, 7, 4, 2, 1, 4, 5, 16, 1};
        for (int what = 0; what < 9; what++) due(counts[what], x.count(what));
        due(BAD, x.count(-1));
        due(BAD, x.count(9));
        due(BAD, x.count(LEAST));
        x.type(';');
        due(0, x.count(0));
        due(8, x.count(1));
        due(4, x.count(2));
        due(0, x.count(3));
        // What is refused is no finding.
        x.visit(30, 0, 0);
        x.sheet(0, 0, 49);
        due(1, x.count(8));
    }

    private static void digest() {
        promise(35);
        due(8501129970606130731L, new DogJudge().digest());
        due(digestByHand(new DogJudge()), new DogJudge().digest());
        DogJudge x = come(heirs("123;456;050"), 0, 0, SAUSAGE, 3, 1, COAT, 5, 2, COAT, 5, 0, COAT, 9, 0, COAT);
        x.seen(0, 0);
        x.taste(1, COAT, 4);
        due(digestByHand(x), x.digest());
        x.lose(0);
        due(digestByHand(x), x.digest());
        due(1, x.count(8));
        x.set(3, 4);
        x.set(2, 1);
        due(digestByHand(x), x.digest());
        // Here it is heard best on another day by 5 sixteenths, and by 3.
        DogJudge more = come(heirs("479;981"), 3, 1, 0, 3, 0, 1, 2, 0, 2, 3, 1, 0, 1, 0, 1, 4, 0, 1, 3, 1, 1, 3, 0, 1);
        more.set(0, 2);
        more.set(2, 2);
        due(digestByHand(more), more.digest());
        DogJudge less = come(heirs("202;771"), 1, 1, 2, 2, 0, 0, 4, 1, 1, 0, 0, 0, 2, 1, 0, 3, 0, 0, 0, 0, 2);
        less.set(0, 0);
        less.set(2, 3);
        due(digestByHand(less), less.digest());
        for (int state = 0; state < 200; state++) {
            DogJudge y = someState(state);
            due(digestByHand(y), y.digest());
        }
    }

    /** States of many kinds, by a fixed row of lots, so that what a digest mixes differs from its neighbours. */
    private static DogJudge someState(int number) {
        Lots lots = new Lots(number);
        int bytes = 7 + 4 * lots.upTo(3);
        StringBuilder text = new StringBuilder();
        for (int i = 0; i < bytes; i++) text.append(i % 4 == 3 ? ';' : (char) ('0' + lots.upTo(9)));
        DogJudge x = heirs(text.toString());
        for (int i = 0; i < 24; i++) x.visit(lots.upTo(i % 3 == 0 ? 29 : 9), lots.upTo(5), lots.upTo(2));
        for (int i = 0; i < 6; i++) x.taste(i / 3, i % 3, lots.upTo(4));
        for (int what = 0; what < 3; what++) x.set(what, lots.upTo(6));
        if (number % 2 == 0) x.seen(lots.upTo(9), lots.upTo(2));
        if (number % 3 == 0) x.set(3, lots.upTo(ALL_DAYS) & lots.upTo(ALL_DAYS));
        return x;
    }

    private static long digestByHand(DogJudge x) {
        long h = 17;
        for (int what = 0; what < 8; what++) h = 31 * h + x.count(what);
        h = 31 * h + x.fault();
        for (int it = 0; it < x.count(0); it++) {
            for (int thing = 0; thing < 3; thing++) h = 31 * h + x.good(it, thing);
            h = 31 * h + x.liking(0, 9, it);
            h = 31 * h + x.liking(1, 29, it);
            h = 31 * h + x.share(5, it, 0);
            h = 31 * h + x.share(5, it, 1);
            h = 31 * h + x.suit(it, 4, NONE);
            h = 31 * h + x.suit(it, 4, 0);
            h = 31 * h + x.chance(4, it, 5, 0);
            h = 31 * h + x.chance(4, it, 5, 1);
            h = 31 * h + x.weeks(7, 9, it);
        }
        for (int day : new int[] {0, 1, 9, 29}) {
            h = 31 * h + x.found(0, day);
            h = 31 * h + x.found(1, day);
        }
        long[] rest = {x.quarrel(0), x.quarrel(1), x.dissent(), x.changes(), x.replies(0, 1, 3, 0), x.replies(0, 1, 3, 1),
            x.tastes(0), x.tastes(1), x.tells(3, 0), x.trainer(), x.heard(4, 0, 0, 4), x.weeks(7, 9, NONE)};
        for (long one : rest) h = 31 * h + one;
        return h;
    }
}
